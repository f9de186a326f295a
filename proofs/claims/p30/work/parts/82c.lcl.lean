/-! rows laid by my own program (wip/p30/gen): the law's look at the clusters -/
theorem zMn {d : Nat} (h : d < 2147483648) : ¬ nI d = -9 := by
  intro q
  have := congrArg Int32.toInt q
  rw [nI_toInt (by omega)] at this
  have h9 : (-9 : Int32).toInt = -9 := by decide
  omega
theorem zMl {d : Nat} (h : d < 2147483648) : (-9 : Int32) < nI d := by
  rw [Int32.lt_iff_toInt_lt, nI_toInt (by omega)]
  have h9 : (-9 : Int32).toInt = -9 := by decide
  omega
/-- heads, as the law counts them -/
def zHcS (τ : zT) (k : Nat) (v : Int32) : Int32 := v + (if τ 7 k = nI k then 1 else 0)
theorem zHc_nI (τ : zT) : ∀ k, zIt (zHcS τ) k 0 = nI (zSu (zHd τ) k) := by
  intro k
  induction k with
  | zero => rfl
  | succ k ih =>
    show zIt (zHcS τ) k 0 + (if τ 7 k = nI k then 1 else 0) = nI (zSu (zHd τ) k + zHd τ k)
    rw [ih]
    unfold zHd
    split
    · exact nI_1 _
    · exact Int32.add_zero _
/-- slots, as the law counts them -/
def zScS (τ : zT) (k h i : Nat) (v : Int32) : Int32 := v + (if ¬ k ≤ i ∧ ¬ τ 7 i = nI i ∧ τ 7 i = nI h then 1 else 0)
theorem zSc_n {τ : zT} {n k h : Nat} (hn : n ≤ 12) (hk : k ≤ n) (hh : h < n) (h7 : τ 7 h = nI h) : zIt (zScS τ k h) n 0 = zSlc τ h k := by
  have e1 : zIt (zScS τ k h) k 0 = zSlc τ h k := by
    unfold zSlc
    refine zIt_cong (fun i v hi => ?_) k (Nat.le_refl k)
    unfold zScS zCnS
    by_cases c : i ≠ h ∧ τ 7 i = nI h
    · rw [if_pos (decide_eq_true c), if_pos ⟨by omega, fun q => c.1 ((nI_eq (by omega) (by omega)).mp (q.symm.trans c.2)), c.2⟩]
    · rw [if_neg (fun q => c (of_decide_eq_true q)), if_neg (fun q => c ⟨fun z => q.2.1 (z ▸ h7), q.2.2⟩)]
  have e2 : ∀ j, zIt (zScS τ k h) (k + j) 0 = zIt (zScS τ k h) k 0 := by
    intro j
    induction j with
    | zero => rfl
    | succ j ih =>
      show zIt (zScS τ k h) (k + j) 0 + (if ¬ k ≤ k + j ∧ ¬ τ 7 (k + j) = nI (k + j) ∧ τ 7 (k + j) = nI h then 1 else 0) = _
      rw [ih, if_neg (fun q => q.1 (by omega))]
      exact Int32.add_zero _
  rw [← e1, ← e2 (n - k), show k + (n - k) = n by omega]
theorem zFa_ds {τ : zT} {f : Nat → Int32} {n : Nat} (hf : ∀ i, i < n → f (6 * i) = τ 0 i ∧ f ((6 * i) + 1) = τ 1 i) {i j : Nat} (hi : i < n) (hj : j < n) : zFa2 f i j = zDs τ i j := by
  unfold zFa2 zDs
  rw [(hf i hi).1, (hf i hi).2, (hf j hj).1, (hf j hj).2]
/-- what the law's look at the clusters wants -/
def zCw (n R : Nat) (f : Nat → Int32) (τ : zT) : Prop := zCls n τ ∧ (∀ k, k < n → (τ 3 k = 1 ∧ τ 6 k = -9) ∨ (τ 3 k = 0 ∧ ∃ d, d < R ∧ τ 6 k = nI d)) ∧ τ 11 10 = nI R ∧ τ 11 11 = nI (zSu (zHd τ) n) ∧ ∀ i, i < n → f (6 * i) = τ 0 i ∧ f ((6 * i) + 1) = τ 1 i
set_option maxHeartbeats 4000000 in
set_option maxRecDepth 100000 in
theorem l_clusters (l : Launch) (G : zG) (ad : Nat → Nat) (na : Nat → Nat → Nat) (ma : Nat → Nat) (hd : zTd ad na ma) (mm : Nat) (hmm : ¬ zAll ad na ma mm) (S : zSg) (hO : zOk S) (f : Nat → Int32) (n : Nat) (hn : S.1.1 = n) (hn12 : n ≤ 9) (R : Nat) (hR1 : R < 1000) (hcw : zCw n R f S.1.2.2) : zMi l G (zAw ad na ma mm) yL_clusters wsL_clusters 2 42 [.ref (ma 0), .ref mm, .int (nI n)] (zLW G ad na ma mm S f) 1 (zLW G ad na ma mm S f) := by
  refine z_met (cc := cL_clusters) (maxL := 9) (ret := (some .boolean)) (by decide) rfl (Nat.le_of_ble_eq_true rfl) ?_
  intro p e s m below meth c ls CF hr hlk hnm hW hK hl
  have CF : CallFix p m c cL_clusters 9 s _ wsL_clusters RL := CF
  obtain ⟨hx, hb, hml, hown, hts⟩ := id CF
  obtain ⟨hC, hLf, hR, hcnt, hf⟩ := hcw
  have hS : va_S (zAw ad na ma mm) s.heap s.heap [] := va_S.rf
  have hA : ∀ q, (zAw ad na ma mm) q → (zAw ad na ma mm) q := fun _ h => h
  have hl : lv_has ls 9 [(0, .ref (ma 0)), (1, .ref mm), (2, .int (nI n))] := hl
  refine lv_iconst (v := 0) hx hb dL_clusters_0 (by decide) ?_
  refine lv_istore_n (lv' := [(3, .int 0), (0, .ref (ma 0)), (1, .ref mm), (2, .int (nI n))]) hx hb dL_clusters_1 rfl hl (by decide) rfl (fun ls hl => ?_)
  refine lv_iconst (v := 0) hx hb dL_clusters_2 (by decide) ?_
  refine lv_istore (lv' := [(4, .int 0), (3, .int 0), (0, .ref (ma 0)), (1, .ref mm), (2, .int (nI n))]) hx hb dL_clusters_3 hl (by decide) rfl (fun ls hl => ?_)
  have loop1 : ∀ (f1 k : Nat) (H : Heap) (locs : List Loc) (ls : Array Slot), k ≤ n → n < k + f1 → zLW G ad na ma mm S f H → va_S (zAw ad na ma mm) s.heap H locs → lv_has ls 9 [(4, .int (nI k)), (3, .int (zIt (zHcS S.1.2.2) k (0 : Int32))), (0, .ref (ma 0)), (1, .ref mm), (2, .int (nI n))] → W p l e ({ frames := 2, cells := 0, slots := 0, locals := 42 } : Room) s m ([.ref (ma 0), .ref mm, .int (nI n)] : List Value).toArray below meth c H locs 0 0 (MQ below (zQi G (1) (zLW G ad na ma mm S f) (zAw ad na ma mm)) ([.ref (ma 0), .ref mm, .int (nI n)] : List Value).toArray s 0 0 (zAw ad na ma mm)) (F0 m 5 ls []) := by
    intro f1
    induction f1 with
    | zero => intro k H locs ls h1 h2; exact absurd h2 (by omega)
    | succ f1 ih1 =>
      intro k H locs ls hk1 hf1 hW hS hl
      generalize hF_v : zIt (zHcS S.1.2.2) k (0 : Int32) = v at hW hl 
      refine lv_iload hx hb dL_clusters_5 (lv_at hl 0 rfl) ?_
      refine lv_iload_n hx hb dL_clusters_7 rfl (lv_at hl 4 rfl) ?_
      refine lv_icmp_ge (tgt := 290) hx hb dL_clusters_8 (by decide) (fun c_1 => ?_) (fun c_2 => ?_)
      · skip
        have c_1 := (z_leI (a := n) (b := k) (by omega) (by omega)).mp c_1
        have hkn1 : k = n := by omega
        rw [hkn1] at hF_v
        subst hF_v
        refine lv_aload_n hx hb dL_clusters_290 rfl (lv_at hl 2 rfl) ?_
        refine z_vi (As := []) (rest := []) (P2 := zLW G ad na ma mm S f) (r := S.1.2.2 11 11) CF (z_lw hmm f (s_X4_headCount l G ad na ma hd S hO)) (cwV 0 hts gL_clusters_X4_headCount rfl rfl rfl (by decide +kernel) ⟨Nat.le_of_ble_eq_true rfl, Nat.le_of_ble_eq_true rfl⟩) (zCP.rcv hK hW.1) hW hK hS (fun q _ h => hA q h) hA hl.1 rfl rfl (Nat.le_of_ble_eq_true rfl) dL_clusters_291 ⟨Nat.le_refl _, Nat.le_refl _⟩ (fun H locs hW hS _ => ?_)
        refine z_top (x2 := zIt (zHcS S.1.2.2) n (0 : Int32)) (hcnt.trans (zHc_nI S.1.2.2 n).symm) ?_
        refine lv_iload_n hx hb dL_clusters_294 rfl (lv_at hl 1 rfl) ?_
        refine lv_icmp_ne (tgt := 302) hx hb dL_clusters_295 (by decide) (fun q => absurd rfl q) (fun _ => ?_)
        refine lv_iconst (v := 1) hx hb dL_clusters_298 (by decide) ?_
        refine lv_goto (tgt := 303) hx hb dL_clusters_299 (by decide) ?_
        exact z_zret hx hb hr hlk (by decide) hK hS (hW) dL_clusters_303
      · skip
        have c_2 := (not_congr (z_leI (a := n) (b := k) (by omega) (by omega))).mp c_2
        refine lv_aload_n hx hb dL_clusters_11 rfl (lv_at hl 2 rfl) ?_
        refine lv_iload hx hb dL_clusters_12 (lv_at hl 0 rfl) ?_
        refine z_vi (As := [.int (nI k)]) (rest := []) (P2 := zLW G ad na ma mm S f) (r := S.1.2.2 7 k) CF (z_lw hmm f (s_X4_headOf l G ad na ma hd S hO k (by omega))) (cwV 1 hts gL_clusters_X4_headOf rfl rfl rfl (by decide +kernel) ⟨Nat.le_of_ble_eq_true rfl, Nat.le_of_ble_eq_true rfl⟩) (zCP.rcv hK hW.1) hW hK hS (fun q _ h => hA q h) hA hl.1 rfl rfl (Nat.le_of_ble_eq_true rfl) dL_clusters_14 ⟨Nat.le_refl _, Nat.le_refl _⟩ (fun H locs hW hS _ => ?_)
        rcases hC k (by omega) with ⟨q7, q8⟩ | ⟨q7, q8⟩ | ⟨h, q1, q2, q7, qh, q8, qn⟩
        · skip
          have c_own : ¬ S.1.2.2 7 k = nI k := fun q => zM9 (by omega) (q7.symm.trans q)
          refine z_top (x2 := -9) (q7) ?_
          refine lv_istore (lv' := [(5, .int (-9)), (4, .int (nI k)), (3, .int v), (0, .ref (ma 0)), (1, .ref mm), (2, .int (nI n))]) hx hb dL_clusters_17 hl (by decide) rfl (fun ls hl => ?_)
          refine lv_iload_n hx hb dL_clusters_19 rfl (lv_at hl 2 rfl) ?_
          refine lv_iload hx hb dL_clusters_20 (lv_at hl 0 rfl) ?_
          refine lv_iload hx hb dL_clusters_22 (lv_at hl 1 rfl) ?_
          refine lv_icmp_ne (tgt := 31) hx hb dL_clusters_24 (by decide) (fun _ => ?_) (fun q => absurd q (zM9 (by omega)))
          refine lv_iconst (v := 0) hx hb dL_clusters_31 (by decide) ?_
          refine lv_iadd hx hb dL_clusters_32 ?_
          refine lv_istore_n (lv' := [(3, .int (v + 0)), (5, .int (-9)), (4, .int (nI k)), (0, .ref (ma 0)), (1, .ref mm), (2, .int (nI n))]) hx hb dL_clusters_33 rfl hl (by decide) rfl (fun ls hl => ?_)
          refine lv_iload hx hb dL_clusters_34 (lv_at hl 1 rfl) ?_
          refine lv_if_ge (tgt := 60) hx hb dL_clusters_36 (by decide) (fun q => absurd q (by decide)) (fun _ => ?_)
          refine lv_iload hx hb dL_clusters_39 (lv_at hl 1 rfl) ?_
          refine lv_bipush (v := -9) hx hb dL_clusters_41 (by decide) ?_
          refine lv_icmp_ne (tgt := 71) hx hb dL_clusters_43 (by decide) (fun q => absurd (by decide) q) (fun _ => ?_)
          refine lv_aload_n hx hb dL_clusters_46 rfl (lv_at hl 3 rfl) ?_
          refine lv_iload hx hb dL_clusters_47 (lv_at hl 2 rfl) ?_
          refine z_vi (As := [.int (nI k)]) (rest := []) (P2 := zLW G ad na ma mm S f) (r := S.1.2.2 8 k) CF (z_lw hmm f (s_X4_slotOf l G ad na ma hd S hO k (by omega))) (cwV 1 hts gL_clusters_X4_slotOf rfl rfl rfl (by decide +kernel) ⟨Nat.le_of_ble_eq_true rfl, Nat.le_of_ble_eq_true rfl⟩) (zCP.rcv hK hW.1) hW hK hS (fun q _ h => hA q h) hA hl.1 rfl rfl (Nat.le_of_ble_eq_true rfl) dL_clusters_49 ⟨Nat.le_refl _, Nat.le_refl _⟩ (fun H locs hW hS _ => ?_)
          refine z_top (x2 := -9) (q8) ?_
          refine lv_bipush (v := -9) hx hb dL_clusters_52 (by decide) ?_
          refine lv_icmp_eq (tgt := 73) hx hb dL_clusters_54 (by decide) (fun _ => ?_) (fun q => absurd (by decide) q)
          refine lv_iload hx hb dL_clusters_73 (lv_at hl 1 rfl) ?_
          refine lv_if_lt (tgt := 222) hx hb dL_clusters_75 (by decide) (fun _ => ?_) (fun q => absurd (by decide) q)
          refine lv_aload_n hx hb dL_clusters_222 rfl (lv_at hl 3 rfl) ?_
          refine lv_iload hx hb dL_clusters_223 (lv_at hl 2 rfl) ?_
          refine z_vi (As := [.int (nI k)]) (rest := []) (P2 := zLW G ad na ma mm S f) (r := S.1.2.2 8 k) CF (z_lw hmm f (s_X4_slotOf l G ad na ma hd S hO k (by omega))) (cwV 1 hts gL_clusters_X4_slotOf rfl rfl rfl (by decide +kernel) ⟨Nat.le_of_ble_eq_true rfl, Nat.le_of_ble_eq_true rfl⟩) (zCP.rcv hK hW.1) hW hK hS (fun q _ h => hA q h) hA hl.1 rfl rfl (Nat.le_of_ble_eq_true rfl) dL_clusters_225 ⟨Nat.le_refl _, Nat.le_refl _⟩ (fun H locs hW hS _ => ?_)
          refine z_top (x2 := -9) (q8) ?_
          refine lv_bipush (v := -9) hx hb dL_clusters_228 (by decide) ?_
          refine lv_icmp_eq (tgt := 235) hx hb dL_clusters_230 (by decide) (fun _ => ?_) (fun q => absurd (by decide) q)
          refine lv_aload_n hx hb dL_clusters_235 rfl (lv_at hl 3 rfl) ?_
          refine lv_iload hx hb dL_clusters_236 (lv_at hl 2 rfl) ?_
          refine z_vi (As := [.int (nI k)]) (rest := []) (P2 := zLW G ad na ma mm S f) (r := S.1.2.2 6 k) CF (z_lw hmm f (s_X4_deathRound l G ad na ma hd S hO k (by omega))) (cwV 1 hts gL_clusters_X4_deathRound rfl rfl rfl (by decide +kernel) ⟨Nat.le_of_ble_eq_true rfl, Nat.le_of_ble_eq_true rfl⟩) (zCP.rcv hK hW.1) hW hK hS (fun q _ h => hA q h) hA hl.1 rfl rfl (Nat.le_of_ble_eq_true rfl) dL_clusters_238 ⟨Nat.le_refl _, Nat.le_refl _⟩ (fun H locs hW hS _ => ?_)
          rcases hLf k (by omega) with ⟨q3, q6⟩ | ⟨q3, d, qd, q6⟩
          · skip
            refine z_top (x2 := -9) (q6) ?_
            refine lv_bipush (v := -9) hx hb dL_clusters_241 (by decide) ?_
            refine lv_icmp_ne (tgt := 250) hx hb dL_clusters_243 (by decide) (fun q => absurd (by decide) q) (fun _ => ?_)
            refine lv_iconst (v := 1) hx hb dL_clusters_246 (by decide) ?_
            refine lv_goto (tgt := 251) hx hb dL_clusters_247 (by decide) ?_
            refine lv_aload_n hx hb dL_clusters_251 rfl (lv_at hl 3 rfl) ?_
            refine lv_iload hx hb dL_clusters_252 (lv_at hl 2 rfl) ?_
            refine z_vi (As := [.int (nI k)]) (rest := [.int 1]) (P2 := zLW G ad na ma mm S f) (r := zBi (S.1.2.2 3 k = 1)) CF (z_lw hmm f (s_X4_isAlive l G ad na ma hd S hO k (by omega))) (cwV 1 hts gL_clusters_X4_isAlive rfl rfl rfl (by decide +kernel) ⟨Nat.le_of_ble_eq_true rfl, Nat.le_of_ble_eq_true rfl⟩) (zCP.rcv hK hW.1) hW hK hS (fun q _ h => hA q h) hA hl.1 rfl rfl (Nat.le_of_ble_eq_true rfl) dL_clusters_254 ⟨Nat.le_refl _, Nat.le_refl _⟩ (fun H locs hW hS _ => ?_)
            refine z_top (x2 := 1) (zBi_t q3) ?_
            refine lv_iconst (v := 1) hx hb dL_clusters_257 (by decide) ?_
            refine lv_icmp_ne (tgt := 265) hx hb dL_clusters_258 (by decide) (fun q => absurd (by decide) q) (fun _ => ?_)
            refine lv_iconst (v := 1) hx hb dL_clusters_261 (by decide) ?_
            refine lv_goto (tgt := 266) hx hb dL_clusters_262 (by decide) ?_
            refine lv_icmp_ne (tgt := 282) hx hb dL_clusters_266 (by decide) (fun q => absurd (by decide) q) (fun _ => ?_)
            refine lv_aload_n hx hb dL_clusters_269 rfl (lv_at hl 3 rfl) ?_
            refine lv_iload hx hb dL_clusters_270 (lv_at hl 2 rfl) ?_
            refine z_vi (As := [.int (nI k)]) (rest := []) (P2 := zLW G ad na ma mm S f) (r := S.1.2.2 6 k) CF (z_lw hmm f (s_X4_deathRound l G ad na ma hd S hO k (by omega))) (cwV 1 hts gL_clusters_X4_deathRound rfl rfl rfl (by decide +kernel) ⟨Nat.le_of_ble_eq_true rfl, Nat.le_of_ble_eq_true rfl⟩) (zCP.rcv hK hW.1) hW hK hS (fun q _ h => hA q h) hA hl.1 rfl rfl (Nat.le_of_ble_eq_true rfl) dL_clusters_272 ⟨Nat.le_refl _, Nat.le_refl _⟩ (fun H locs hW hS _ => ?_)
            refine z_top (x2 := -9) (q6) ?_
            refine lv_aload_n hx hb dL_clusters_275 rfl (lv_at hl 3 rfl) ?_
            refine z_vi (As := []) (rest := [.int (-9)]) (P2 := zLW G ad na ma mm S f) (r := S.1.2.2 11 10) CF (z_lw hmm f (s_X4_roundNumber l G ad na ma hd S hO)) (cwV 0 hts gL_clusters_X4_roundNumber rfl rfl rfl (by decide +kernel) ⟨Nat.le_of_ble_eq_true rfl, Nat.le_of_ble_eq_true rfl⟩) (zCP.rcv hK hW.1) hW hK hS (fun q _ h => hA q h) hA hl.1 rfl rfl (Nat.le_of_ble_eq_true rfl) dL_clusters_276 ⟨Nat.le_refl _, Nat.le_refl _⟩ (fun H locs hW hS _ => ?_)
            refine z_top (x2 := nI R) (hR) ?_
            refine lv_icmp_lt (tgt := 284) hx hb dL_clusters_279 (by decide) (fun _ => ?_) (fun q => absurd (zMl (by omega)) q)
            refine lv_iinc (v := nI (k + 1)) (lv' := [(4, .int (nI (k + 1))), (3, .int (v + 0)), (5, .int (-9)), (0, .ref (ma 0)), (1, .ref mm), (2, .int (nI n))]) hx hb dL_clusters_284 hl (k := 2) rfl (nI_1 _) (by decide) rfl (fun ls hl => ?_)
            refine lv_goto (tgt := 5) hx hb dL_clusters_287 (by decide) ?_
            have e_3 : zIt (zHcS S.1.2.2) (k + 1) (0 : Int32) = v + 0 := by
              rw [zIt_s, hF_v] <;> (first | with_reducible rfl | (simp only [zHcS, c_2, c_own, eq_self, ne_eq, not_true_eq_false, not_false_eq_true, and_true, true_and, and_self, and_false, false_and, true_or, or_true, false_or, or_false, reduceIte]; done) | (simp [zHcS, c_2, c_own]; done) | rfl | (simp_all [zHcS]; done))
            refine ih1 (k + 1) _ _ _ (by omega) (by omega) ?_ hS ?_
            · first | exact hW | (rw [e_3]; exact hW)
            · first | exact lv_sub hl [0, 1, 3, 4, 5] rfl | (rw [e_3]; exact lv_sub hl [0, 1, 3, 4, 5] rfl)
          · skip
            refine z_top (x2 := nI d) (q6) ?_
            refine lv_bipush (v := -9) hx hb dL_clusters_241 (by decide) ?_
            refine lv_icmp_ne (tgt := 250) hx hb dL_clusters_243 (by decide) (fun _ => ?_) (fun q => absurd q (zMn (by omega)))
            refine lv_iconst (v := 0) hx hb dL_clusters_250 (by decide) ?_
            refine lv_aload_n hx hb dL_clusters_251 rfl (lv_at hl 3 rfl) ?_
            refine lv_iload hx hb dL_clusters_252 (lv_at hl 2 rfl) ?_
            refine z_vi (As := [.int (nI k)]) (rest := [.int 0]) (P2 := zLW G ad na ma mm S f) (r := zBi (S.1.2.2 3 k = 1)) CF (z_lw hmm f (s_X4_isAlive l G ad na ma hd S hO k (by omega))) (cwV 1 hts gL_clusters_X4_isAlive rfl rfl rfl (by decide +kernel) ⟨Nat.le_of_ble_eq_true rfl, Nat.le_of_ble_eq_true rfl⟩) (zCP.rcv hK hW.1) hW hK hS (fun q _ h => hA q h) hA hl.1 rfl rfl (Nat.le_of_ble_eq_true rfl) dL_clusters_254 ⟨Nat.le_refl _, Nat.le_refl _⟩ (fun H locs hW hS _ => ?_)
            refine z_top (x2 := 0) (zBi_f (by rw [q3]; decide)) ?_
            refine lv_iconst (v := 1) hx hb dL_clusters_257 (by decide) ?_
            refine lv_icmp_ne (tgt := 265) hx hb dL_clusters_258 (by decide) (fun _ => ?_) (fun q => absurd q (by decide))
            refine lv_iconst (v := 0) hx hb dL_clusters_265 (by decide) ?_
            refine lv_icmp_ne (tgt := 282) hx hb dL_clusters_266 (by decide) (fun q => absurd (by decide) q) (fun _ => ?_)
            refine lv_aload_n hx hb dL_clusters_269 rfl (lv_at hl 3 rfl) ?_
            refine lv_iload hx hb dL_clusters_270 (lv_at hl 2 rfl) ?_
            refine z_vi (As := [.int (nI k)]) (rest := []) (P2 := zLW G ad na ma mm S f) (r := S.1.2.2 6 k) CF (z_lw hmm f (s_X4_deathRound l G ad na ma hd S hO k (by omega))) (cwV 1 hts gL_clusters_X4_deathRound rfl rfl rfl (by decide +kernel) ⟨Nat.le_of_ble_eq_true rfl, Nat.le_of_ble_eq_true rfl⟩) (zCP.rcv hK hW.1) hW hK hS (fun q _ h => hA q h) hA hl.1 rfl rfl (Nat.le_of_ble_eq_true rfl) dL_clusters_272 ⟨Nat.le_refl _, Nat.le_refl _⟩ (fun H locs hW hS _ => ?_)
            refine z_top (x2 := nI d) (q6) ?_
            refine lv_aload_n hx hb dL_clusters_275 rfl (lv_at hl 3 rfl) ?_
            refine z_vi (As := []) (rest := [.int (nI d)]) (P2 := zLW G ad na ma mm S f) (r := S.1.2.2 11 10) CF (z_lw hmm f (s_X4_roundNumber l G ad na ma hd S hO)) (cwV 0 hts gL_clusters_X4_roundNumber rfl rfl rfl (by decide +kernel) ⟨Nat.le_of_ble_eq_true rfl, Nat.le_of_ble_eq_true rfl⟩) (zCP.rcv hK hW.1) hW hK hS (fun q _ h => hA q h) hA hl.1 rfl rfl (Nat.le_of_ble_eq_true rfl) dL_clusters_276 ⟨Nat.le_refl _, Nat.le_refl _⟩ (fun H locs hW hS _ => ?_)
            refine z_top (x2 := nI R) (hR) ?_
            refine lv_icmp_lt (tgt := 284) hx hb dL_clusters_279 (by decide) (fun _ => ?_) (fun q => absurd ((z_ltI (a := d) (b := R) (by omega) (by omega)).mpr (by omega)) q)
            refine lv_iinc (v := nI (k + 1)) (lv' := [(4, .int (nI (k + 1))), (3, .int (v + 0)), (5, .int (-9)), (0, .ref (ma 0)), (1, .ref mm), (2, .int (nI n))]) hx hb dL_clusters_284 hl (k := 2) rfl (nI_1 _) (by decide) rfl (fun ls hl => ?_)
            refine lv_goto (tgt := 5) hx hb dL_clusters_287 (by decide) ?_
            have e_4 : zIt (zHcS S.1.2.2) (k + 1) (0 : Int32) = v + 0 := by
              rw [zIt_s, hF_v] <;> (first | with_reducible rfl | (simp only [zHcS, c_2, c_own, eq_self, ne_eq, not_true_eq_false, not_false_eq_true, and_true, true_and, and_self, and_false, false_and, true_or, or_true, false_or, or_false, reduceIte]; done) | (simp [zHcS, c_2, c_own]; done) | rfl | (simp_all [zHcS]; done))
            refine ih1 (k + 1) _ _ _ (by omega) (by omega) ?_ hS ?_
            · first | exact hW | (rw [e_4]; exact hW)
            · first | exact lv_sub hl [0, 1, 3, 4, 5] rfl | (rw [e_4]; exact lv_sub hl [0, 1, 3, 4, 5] rfl)
        · skip
          refine z_top (x2 := nI k) (q7) ?_
          refine lv_istore (lv' := [(5, .int (nI k)), (4, .int (nI k)), (3, .int v), (0, .ref (ma 0)), (1, .ref mm), (2, .int (nI n))]) hx hb dL_clusters_17 hl (by decide) rfl (fun ls hl => ?_)
          refine lv_iload_n hx hb dL_clusters_19 rfl (lv_at hl 2 rfl) ?_
          refine lv_iload hx hb dL_clusters_20 (lv_at hl 0 rfl) ?_
          refine lv_iload hx hb dL_clusters_22 (lv_at hl 1 rfl) ?_
          refine lv_icmp_ne (tgt := 31) hx hb dL_clusters_24 (by decide) (fun q => absurd rfl q) (fun _ => ?_)
          refine lv_iconst (v := 1) hx hb dL_clusters_27 (by decide) ?_
          refine lv_goto (tgt := 32) hx hb dL_clusters_28 (by decide) ?_
          refine lv_iadd hx hb dL_clusters_32 ?_
          refine lv_istore_n (lv' := [(3, .int (v + 1)), (5, .int (nI k)), (4, .int (nI k)), (0, .ref (ma 0)), (1, .ref mm), (2, .int (nI n))]) hx hb dL_clusters_33 rfl hl (by decide) rfl (fun ls hl => ?_)
          refine lv_iload hx hb dL_clusters_34 (lv_at hl 1 rfl) ?_
          refine lv_if_ge (tgt := 60) hx hb dL_clusters_36 (by decide) (fun _ => ?_) (fun q => absurd (nI_pos' (by omega)) q)
          refine lv_aload_n hx hb dL_clusters_60 rfl (lv_at hl 3 rfl) ?_
          refine lv_iload hx hb dL_clusters_61 (lv_at hl 1 rfl) ?_
          refine z_vi (As := [.int (nI k)]) (rest := []) (P2 := zLW G ad na ma mm S f) (r := S.1.2.2 7 k) CF (z_lw hmm f (s_X4_headOf l G ad na ma hd S hO k (by omega))) (cwV 1 hts gL_clusters_X4_headOf rfl rfl rfl (by decide +kernel) ⟨Nat.le_of_ble_eq_true rfl, Nat.le_of_ble_eq_true rfl⟩) (zCP.rcv hK hW.1) hW hK hS (fun q _ h => hA q h) hA hl.1 rfl rfl (Nat.le_of_ble_eq_true rfl) dL_clusters_63 ⟨Nat.le_refl _, Nat.le_refl _⟩ (fun H locs hW hS _ => ?_)
          refine z_top (x2 := nI k) (q7) ?_
          refine lv_iload hx hb dL_clusters_66 (lv_at hl 1 rfl) ?_
          refine lv_icmp_eq (tgt := 73) hx hb dL_clusters_68 (by decide) (fun _ => ?_) (fun q => absurd rfl q)
          refine lv_iload hx hb dL_clusters_73 (lv_at hl 1 rfl) ?_
          refine lv_if_lt (tgt := 222) hx hb dL_clusters_75 (by decide) (fun q => absurd q (nI_pos (by omega))) (fun _ => ?_)
          refine lv_iload hx hb dL_clusters_78 (lv_at hl 1 rfl) ?_
          refine lv_iload hx hb dL_clusters_80 (lv_at hl 2 rfl) ?_
          refine lv_icmp_eq (tgt := 222) hx hb dL_clusters_82 (by decide) (fun _ => ?_) (fun q => absurd rfl q)
          refine lv_aload_n hx hb dL_clusters_222 rfl (lv_at hl 3 rfl) ?_
          refine lv_iload hx hb dL_clusters_223 (lv_at hl 2 rfl) ?_
          refine z_vi (As := [.int (nI k)]) (rest := []) (P2 := zLW G ad na ma mm S f) (r := S.1.2.2 8 k) CF (z_lw hmm f (s_X4_slotOf l G ad na ma hd S hO k (by omega))) (cwV 1 hts gL_clusters_X4_slotOf rfl rfl rfl (by decide +kernel) ⟨Nat.le_of_ble_eq_true rfl, Nat.le_of_ble_eq_true rfl⟩) (zCP.rcv hK hW.1) hW hK hS (fun q _ h => hA q h) hA hl.1 rfl rfl (Nat.le_of_ble_eq_true rfl) dL_clusters_225 ⟨Nat.le_refl _, Nat.le_refl _⟩ (fun H locs hW hS _ => ?_)
          refine z_top (x2 := -9) (q8) ?_
          refine lv_bipush (v := -9) hx hb dL_clusters_228 (by decide) ?_
          refine lv_icmp_eq (tgt := 235) hx hb dL_clusters_230 (by decide) (fun _ => ?_) (fun q => absurd (by decide) q)
          refine lv_aload_n hx hb dL_clusters_235 rfl (lv_at hl 3 rfl) ?_
          refine lv_iload hx hb dL_clusters_236 (lv_at hl 2 rfl) ?_
          refine z_vi (As := [.int (nI k)]) (rest := []) (P2 := zLW G ad na ma mm S f) (r := S.1.2.2 6 k) CF (z_lw hmm f (s_X4_deathRound l G ad na ma hd S hO k (by omega))) (cwV 1 hts gL_clusters_X4_deathRound rfl rfl rfl (by decide +kernel) ⟨Nat.le_of_ble_eq_true rfl, Nat.le_of_ble_eq_true rfl⟩) (zCP.rcv hK hW.1) hW hK hS (fun q _ h => hA q h) hA hl.1 rfl rfl (Nat.le_of_ble_eq_true rfl) dL_clusters_238 ⟨Nat.le_refl _, Nat.le_refl _⟩ (fun H locs hW hS _ => ?_)
          rcases hLf k (by omega) with ⟨q3, q6⟩ | ⟨q3, d, qd, q6⟩
          · skip
            refine z_top (x2 := -9) (q6) ?_
            refine lv_bipush (v := -9) hx hb dL_clusters_241 (by decide) ?_
            refine lv_icmp_ne (tgt := 250) hx hb dL_clusters_243 (by decide) (fun q => absurd (by decide) q) (fun _ => ?_)
            refine lv_iconst (v := 1) hx hb dL_clusters_246 (by decide) ?_
            refine lv_goto (tgt := 251) hx hb dL_clusters_247 (by decide) ?_
            refine lv_aload_n hx hb dL_clusters_251 rfl (lv_at hl 3 rfl) ?_
            refine lv_iload hx hb dL_clusters_252 (lv_at hl 2 rfl) ?_
            refine z_vi (As := [.int (nI k)]) (rest := [.int 1]) (P2 := zLW G ad na ma mm S f) (r := zBi (S.1.2.2 3 k = 1)) CF (z_lw hmm f (s_X4_isAlive l G ad na ma hd S hO k (by omega))) (cwV 1 hts gL_clusters_X4_isAlive rfl rfl rfl (by decide +kernel) ⟨Nat.le_of_ble_eq_true rfl, Nat.le_of_ble_eq_true rfl⟩) (zCP.rcv hK hW.1) hW hK hS (fun q _ h => hA q h) hA hl.1 rfl rfl (Nat.le_of_ble_eq_true rfl) dL_clusters_254 ⟨Nat.le_refl _, Nat.le_refl _⟩ (fun H locs hW hS _ => ?_)
            refine z_top (x2 := 1) (zBi_t q3) ?_
            refine lv_iconst (v := 1) hx hb dL_clusters_257 (by decide) ?_
            refine lv_icmp_ne (tgt := 265) hx hb dL_clusters_258 (by decide) (fun q => absurd (by decide) q) (fun _ => ?_)
            refine lv_iconst (v := 1) hx hb dL_clusters_261 (by decide) ?_
            refine lv_goto (tgt := 266) hx hb dL_clusters_262 (by decide) ?_
            refine lv_icmp_ne (tgt := 282) hx hb dL_clusters_266 (by decide) (fun q => absurd (by decide) q) (fun _ => ?_)
            refine lv_aload_n hx hb dL_clusters_269 rfl (lv_at hl 3 rfl) ?_
            refine lv_iload hx hb dL_clusters_270 (lv_at hl 2 rfl) ?_
            refine z_vi (As := [.int (nI k)]) (rest := []) (P2 := zLW G ad na ma mm S f) (r := S.1.2.2 6 k) CF (z_lw hmm f (s_X4_deathRound l G ad na ma hd S hO k (by omega))) (cwV 1 hts gL_clusters_X4_deathRound rfl rfl rfl (by decide +kernel) ⟨Nat.le_of_ble_eq_true rfl, Nat.le_of_ble_eq_true rfl⟩) (zCP.rcv hK hW.1) hW hK hS (fun q _ h => hA q h) hA hl.1 rfl rfl (Nat.le_of_ble_eq_true rfl) dL_clusters_272 ⟨Nat.le_refl _, Nat.le_refl _⟩ (fun H locs hW hS _ => ?_)
            refine z_top (x2 := -9) (q6) ?_
            refine lv_aload_n hx hb dL_clusters_275 rfl (lv_at hl 3 rfl) ?_
            refine z_vi (As := []) (rest := [.int (-9)]) (P2 := zLW G ad na ma mm S f) (r := S.1.2.2 11 10) CF (z_lw hmm f (s_X4_roundNumber l G ad na ma hd S hO)) (cwV 0 hts gL_clusters_X4_roundNumber rfl rfl rfl (by decide +kernel) ⟨Nat.le_of_ble_eq_true rfl, Nat.le_of_ble_eq_true rfl⟩) (zCP.rcv hK hW.1) hW hK hS (fun q _ h => hA q h) hA hl.1 rfl rfl (Nat.le_of_ble_eq_true rfl) dL_clusters_276 ⟨Nat.le_refl _, Nat.le_refl _⟩ (fun H locs hW hS _ => ?_)
            refine z_top (x2 := nI R) (hR) ?_
            refine lv_icmp_lt (tgt := 284) hx hb dL_clusters_279 (by decide) (fun _ => ?_) (fun q => absurd (zMl (by omega)) q)
            refine lv_iinc (v := nI (k + 1)) (lv' := [(4, .int (nI (k + 1))), (3, .int (v + 1)), (5, .int (nI k)), (0, .ref (ma 0)), (1, .ref mm), (2, .int (nI n))]) hx hb dL_clusters_284 hl (k := 2) rfl (nI_1 _) (by decide) rfl (fun ls hl => ?_)
            refine lv_goto (tgt := 5) hx hb dL_clusters_287 (by decide) ?_
            have e_5 : zIt (zHcS S.1.2.2) (k + 1) (0 : Int32) = v + 1 := by
              rw [zIt_s, hF_v] <;> (first | with_reducible rfl | (simp only [zHcS, c_2, q7, eq_self, ne_eq, not_true_eq_false, not_false_eq_true, and_true, true_and, and_self, and_false, false_and, true_or, or_true, false_or, or_false, reduceIte]; done) | (simp [zHcS, c_2, q7]; done) | rfl | (simp_all [zHcS]; done))
            refine ih1 (k + 1) _ _ _ (by omega) (by omega) ?_ hS ?_
            · first | exact hW | (rw [e_5]; exact hW)
            · first | exact lv_sub hl [0, 1, 3, 4, 5] rfl | (rw [e_5]; exact lv_sub hl [0, 1, 3, 4, 5] rfl)
          · skip
            refine z_top (x2 := nI d) (q6) ?_
            refine lv_bipush (v := -9) hx hb dL_clusters_241 (by decide) ?_
            refine lv_icmp_ne (tgt := 250) hx hb dL_clusters_243 (by decide) (fun _ => ?_) (fun q => absurd q (zMn (by omega)))
            refine lv_iconst (v := 0) hx hb dL_clusters_250 (by decide) ?_
            refine lv_aload_n hx hb dL_clusters_251 rfl (lv_at hl 3 rfl) ?_
            refine lv_iload hx hb dL_clusters_252 (lv_at hl 2 rfl) ?_
            refine z_vi (As := [.int (nI k)]) (rest := [.int 0]) (P2 := zLW G ad na ma mm S f) (r := zBi (S.1.2.2 3 k = 1)) CF (z_lw hmm f (s_X4_isAlive l G ad na ma hd S hO k (by omega))) (cwV 1 hts gL_clusters_X4_isAlive rfl rfl rfl (by decide +kernel) ⟨Nat.le_of_ble_eq_true rfl, Nat.le_of_ble_eq_true rfl⟩) (zCP.rcv hK hW.1) hW hK hS (fun q _ h => hA q h) hA hl.1 rfl rfl (Nat.le_of_ble_eq_true rfl) dL_clusters_254 ⟨Nat.le_refl _, Nat.le_refl _⟩ (fun H locs hW hS _ => ?_)
            refine z_top (x2 := 0) (zBi_f (by rw [q3]; decide)) ?_
            refine lv_iconst (v := 1) hx hb dL_clusters_257 (by decide) ?_
            refine lv_icmp_ne (tgt := 265) hx hb dL_clusters_258 (by decide) (fun _ => ?_) (fun q => absurd q (by decide))
            refine lv_iconst (v := 0) hx hb dL_clusters_265 (by decide) ?_
            refine lv_icmp_ne (tgt := 282) hx hb dL_clusters_266 (by decide) (fun q => absurd (by decide) q) (fun _ => ?_)
            refine lv_aload_n hx hb dL_clusters_269 rfl (lv_at hl 3 rfl) ?_
            refine lv_iload hx hb dL_clusters_270 (lv_at hl 2 rfl) ?_
            refine z_vi (As := [.int (nI k)]) (rest := []) (P2 := zLW G ad na ma mm S f) (r := S.1.2.2 6 k) CF (z_lw hmm f (s_X4_deathRound l G ad na ma hd S hO k (by omega))) (cwV 1 hts gL_clusters_X4_deathRound rfl rfl rfl (by decide +kernel) ⟨Nat.le_of_ble_eq_true rfl, Nat.le_of_ble_eq_true rfl⟩) (zCP.rcv hK hW.1) hW hK hS (fun q _ h => hA q h) hA hl.1 rfl rfl (Nat.le_of_ble_eq_true rfl) dL_clusters_272 ⟨Nat.le_refl _, Nat.le_refl _⟩ (fun H locs hW hS _ => ?_)
            refine z_top (x2 := nI d) (q6) ?_
            refine lv_aload_n hx hb dL_clusters_275 rfl (lv_at hl 3 rfl) ?_
            refine z_vi (As := []) (rest := [.int (nI d)]) (P2 := zLW G ad na ma mm S f) (r := S.1.2.2 11 10) CF (z_lw hmm f (s_X4_roundNumber l G ad na ma hd S hO)) (cwV 0 hts gL_clusters_X4_roundNumber rfl rfl rfl (by decide +kernel) ⟨Nat.le_of_ble_eq_true rfl, Nat.le_of_ble_eq_true rfl⟩) (zCP.rcv hK hW.1) hW hK hS (fun q _ h => hA q h) hA hl.1 rfl rfl (Nat.le_of_ble_eq_true rfl) dL_clusters_276 ⟨Nat.le_refl _, Nat.le_refl _⟩ (fun H locs hW hS _ => ?_)
            refine z_top (x2 := nI R) (hR) ?_
            refine lv_icmp_lt (tgt := 284) hx hb dL_clusters_279 (by decide) (fun _ => ?_) (fun q => absurd ((z_ltI (a := d) (b := R) (by omega) (by omega)).mpr (by omega)) q)
            refine lv_iinc (v := nI (k + 1)) (lv' := [(4, .int (nI (k + 1))), (3, .int (v + 1)), (5, .int (nI k)), (0, .ref (ma 0)), (1, .ref mm), (2, .int (nI n))]) hx hb dL_clusters_284 hl (k := 2) rfl (nI_1 _) (by decide) rfl (fun ls hl => ?_)
            refine lv_goto (tgt := 5) hx hb dL_clusters_287 (by decide) ?_
            have e_6 : zIt (zHcS S.1.2.2) (k + 1) (0 : Int32) = v + 1 := by
              rw [zIt_s, hF_v] <;> (first | with_reducible rfl | (simp only [zHcS, c_2, q7, eq_self, ne_eq, not_true_eq_false, not_false_eq_true, and_true, true_and, and_self, and_false, false_and, true_or, or_true, false_or, or_false, reduceIte]; done) | (simp [zHcS, c_2, q7]; done) | rfl | (simp_all [zHcS]; done))
            refine ih1 (k + 1) _ _ _ (by omega) (by omega) ?_ hS ?_
            · first | exact hW | (rw [e_6]; exact hW)
            · first | exact lv_sub hl [0, 1, 3, 4, 5] rfl | (rw [e_6]; exact lv_sub hl [0, 1, 3, 4, 5] rfl)
        · skip
          have c_own : ¬ S.1.2.2 7 k = nI k := fun q => q2 ((nI_eq (by omega) (by omega)).mp (q7.symm.trans q))
          have qf : ∀ j, j < n → S.1.2.2 7 j = nI j → ¬ zFa2 f k j < zFa2 f k h ∧ (zFa2 f k j = zFa2 f k h → ¬ j < h) := fun j hj a => by
            rw [zFa_ds hf (by omega) hj, zFa_ds hf (by omega) q1]
            exact qn j hj a
          refine z_top (x2 := nI h) (q7) ?_
          refine lv_istore (lv' := [(5, .int (nI h)), (4, .int (nI k)), (3, .int v), (0, .ref (ma 0)), (1, .ref mm), (2, .int (nI n))]) hx hb dL_clusters_17 hl (by decide) rfl (fun ls hl => ?_)
          refine lv_iload_n hx hb dL_clusters_19 rfl (lv_at hl 2 rfl) ?_
          refine lv_iload hx hb dL_clusters_20 (lv_at hl 0 rfl) ?_
          refine lv_iload hx hb dL_clusters_22 (lv_at hl 1 rfl) ?_
          refine lv_icmp_ne (tgt := 31) hx hb dL_clusters_24 (by decide) (fun _ => ?_) (fun q => absurd ((z_eqI (a := h) (b := k) (by omega) (by omega)).mp q) (by omega))
          refine lv_iconst (v := 0) hx hb dL_clusters_31 (by decide) ?_
          refine lv_iadd hx hb dL_clusters_32 ?_
          refine lv_istore_n (lv' := [(3, .int (v + 0)), (5, .int (nI h)), (4, .int (nI k)), (0, .ref (ma 0)), (1, .ref mm), (2, .int (nI n))]) hx hb dL_clusters_33 rfl hl (by decide) rfl (fun ls hl => ?_)
          refine lv_iload hx hb dL_clusters_34 (lv_at hl 1 rfl) ?_
          refine lv_if_ge (tgt := 60) hx hb dL_clusters_36 (by decide) (fun _ => ?_) (fun q => absurd (nI_pos' (by omega)) q)
          refine lv_aload_n hx hb dL_clusters_60 rfl (lv_at hl 3 rfl) ?_
          refine lv_iload hx hb dL_clusters_61 (lv_at hl 1 rfl) ?_
          refine z_vi (As := [.int (nI h)]) (rest := []) (P2 := zLW G ad na ma mm S f) (r := S.1.2.2 7 h) CF (z_lw hmm f (s_X4_headOf l G ad na ma hd S hO h (by omega))) (cwV 1 hts gL_clusters_X4_headOf rfl rfl rfl (by decide +kernel) ⟨Nat.le_of_ble_eq_true rfl, Nat.le_of_ble_eq_true rfl⟩) (zCP.rcv hK hW.1) hW hK hS (fun q _ h => hA q h) hA hl.1 rfl rfl (Nat.le_of_ble_eq_true rfl) dL_clusters_63 ⟨Nat.le_refl _, Nat.le_refl _⟩ (fun H locs hW hS _ => ?_)
          refine z_top (x2 := nI h) (qh) ?_
          refine lv_iload hx hb dL_clusters_66 (lv_at hl 1 rfl) ?_
          refine lv_icmp_eq (tgt := 73) hx hb dL_clusters_68 (by decide) (fun _ => ?_) (fun q => absurd rfl q)
          refine lv_iload hx hb dL_clusters_73 (lv_at hl 1 rfl) ?_
          refine lv_if_lt (tgt := 222) hx hb dL_clusters_75 (by decide) (fun q => absurd q (nI_pos (by omega))) (fun _ => ?_)
          refine lv_iload hx hb dL_clusters_78 (lv_at hl 1 rfl) ?_
          refine lv_iload hx hb dL_clusters_80 (lv_at hl 2 rfl) ?_
          refine lv_icmp_eq (tgt := 222) hx hb dL_clusters_82 (by decide) (fun q => absurd ((z_eqI (a := h) (b := k) (by omega) (by omega)).mp q) (by omega)) (fun _ => ?_)
          refine lv_iconst (v := 0) hx hb dL_clusters_85 (by decide) ?_
          refine lv_istore (lv' := [(6, .int 0), (3, .int (v + 0)), (5, .int (nI h)), (4, .int (nI k)), (0, .ref (ma 0)), (1, .ref mm), (2, .int (nI n))]) hx hb dL_clusters_86 hl (by decide) rfl (fun ls hl => ?_)
          refine lv_iconst (v := 0) hx hb dL_clusters_88 (by decide) ?_
          refine lv_istore (lv' := [(7, .int 0), (6, .int 0), (3, .int (v + 0)), (5, .int (nI h)), (4, .int (nI k)), (0, .ref (ma 0)), (1, .ref mm), (2, .int (nI n))]) hx hb dL_clusters_89 hl (by decide) rfl (fun ls hl => ?_)
          have loop2 : ∀ (f2 i : Nat) (H : Heap) (locs : List Loc) (ls : Array Slot), i ≤ n → n < i + f2 → zLW G ad na ma mm S f H → va_S (zAw ad na ma mm) s.heap H locs → lv_has ls 9 [(7, .int (nI i)), (6, .int (zIt (zScS S.1.2.2 k h) i (0 : Int32))), (3, .int (v + 0)), (5, .int (nI h)), (4, .int (nI k)), (0, .ref (ma 0)), (1, .ref mm), (2, .int (nI n))] → W p l e ({ frames := 2, cells := 0, slots := 0, locals := 42 } : Room) s m ([.ref (ma 0), .ref mm, .int (nI n)] : List Value).toArray below meth c H locs 0 0 (MQ below (zQi G (1) (zLW G ad na ma mm S f) (zAw ad na ma mm)) ([.ref (ma 0), .ref mm, .int (nI n)] : List Value).toArray s 0 0 (zAw ad na ma mm)) (F0 m 91 ls []) := by
            intro f2
            induction f2 with
            | zero => intro i H locs ls h1 h2; exact absurd h2 (by omega)
            | succ f2 ih2 =>
              intro i H locs ls hk2 hf2 hW hS hl
              generalize hF_u : zIt (zScS S.1.2.2 k h) i (0 : Int32) = u at hW hl 
              refine lv_iload hx hb dL_clusters_91 (lv_at hl 0 rfl) ?_
              refine lv_iload_n hx hb dL_clusters_93 rfl (lv_at hl 7 rfl) ?_
              refine lv_icmp_ge (tgt := 206) hx hb dL_clusters_94 (by decide) (fun c_7 => ?_) (fun c_8 => ?_)
              · skip
                have c_7 := (z_leI (a := n) (b := i) (by omega) (by omega)).mp c_7
                have hkn2 : i = n := by omega
                rw [hkn2] at hF_u
                subst hF_u
                refine lv_aload_n hx hb dL_clusters_206 rfl (lv_at hl 5 rfl) ?_
                refine lv_iload hx hb dL_clusters_207 (lv_at hl 4 rfl) ?_
                refine z_vi (As := [.int (nI k)]) (rest := []) (P2 := zLW G ad na ma mm S f) (r := S.1.2.2 8 k) CF (z_lw hmm f (s_X4_slotOf l G ad na ma hd S hO k (by omega))) (cwV 1 hts gL_clusters_X4_slotOf rfl rfl rfl (by decide +kernel) ⟨Nat.le_of_ble_eq_true rfl, Nat.le_of_ble_eq_true rfl⟩) (zCP.rcv hK hW.1) hW hK hS (fun q _ h => hA q h) hA hl.1 rfl rfl (Nat.le_of_ble_eq_true rfl) dL_clusters_209 ⟨Nat.le_refl _, Nat.le_refl _⟩ (fun H locs hW hS _ => ?_)
                refine z_top (x2 := zIt (zScS S.1.2.2 k h) n (0 : Int32)) (q8.trans (zSc_n (by omega) (by omega) q1 qh).symm) ?_
                refine lv_iload hx hb dL_clusters_212 (lv_at hl 1 rfl) ?_
                refine lv_icmp_eq (tgt := 219) hx hb dL_clusters_214 (by decide) (fun _ => ?_) (fun q => absurd rfl q)
                refine lv_goto (tgt := 235) hx hb dL_clusters_219 (by decide) ?_
                refine lv_aload_n hx hb dL_clusters_235 rfl (lv_at hl 5 rfl) ?_
                refine lv_iload hx hb dL_clusters_236 (lv_at hl 4 rfl) ?_
                refine z_vi (As := [.int (nI k)]) (rest := []) (P2 := zLW G ad na ma mm S f) (r := S.1.2.2 6 k) CF (z_lw hmm f (s_X4_deathRound l G ad na ma hd S hO k (by omega))) (cwV 1 hts gL_clusters_X4_deathRound rfl rfl rfl (by decide +kernel) ⟨Nat.le_of_ble_eq_true rfl, Nat.le_of_ble_eq_true rfl⟩) (zCP.rcv hK hW.1) hW hK hS (fun q _ h => hA q h) hA hl.1 rfl rfl (Nat.le_of_ble_eq_true rfl) dL_clusters_238 ⟨Nat.le_refl _, Nat.le_refl _⟩ (fun H locs hW hS _ => ?_)
                rcases hLf k (by omega) with ⟨q3, q6⟩ | ⟨q3, d, qd, q6⟩
                · skip
                  refine z_top (x2 := -9) (q6) ?_
                  refine lv_bipush (v := -9) hx hb dL_clusters_241 (by decide) ?_
                  refine lv_icmp_ne (tgt := 250) hx hb dL_clusters_243 (by decide) (fun q => absurd (by decide) q) (fun _ => ?_)
                  refine lv_iconst (v := 1) hx hb dL_clusters_246 (by decide) ?_
                  refine lv_goto (tgt := 251) hx hb dL_clusters_247 (by decide) ?_
                  refine lv_aload_n hx hb dL_clusters_251 rfl (lv_at hl 5 rfl) ?_
                  refine lv_iload hx hb dL_clusters_252 (lv_at hl 4 rfl) ?_
                  refine z_vi (As := [.int (nI k)]) (rest := [.int 1]) (P2 := zLW G ad na ma mm S f) (r := zBi (S.1.2.2 3 k = 1)) CF (z_lw hmm f (s_X4_isAlive l G ad na ma hd S hO k (by omega))) (cwV 1 hts gL_clusters_X4_isAlive rfl rfl rfl (by decide +kernel) ⟨Nat.le_of_ble_eq_true rfl, Nat.le_of_ble_eq_true rfl⟩) (zCP.rcv hK hW.1) hW hK hS (fun q _ h => hA q h) hA hl.1 rfl rfl (Nat.le_of_ble_eq_true rfl) dL_clusters_254 ⟨Nat.le_refl _, Nat.le_refl _⟩ (fun H locs hW hS _ => ?_)
                  refine z_top (x2 := 1) (zBi_t q3) ?_
                  refine lv_iconst (v := 1) hx hb dL_clusters_257 (by decide) ?_
                  refine lv_icmp_ne (tgt := 265) hx hb dL_clusters_258 (by decide) (fun q => absurd (by decide) q) (fun _ => ?_)
                  refine lv_iconst (v := 1) hx hb dL_clusters_261 (by decide) ?_
                  refine lv_goto (tgt := 266) hx hb dL_clusters_262 (by decide) ?_
                  refine lv_icmp_ne (tgt := 282) hx hb dL_clusters_266 (by decide) (fun q => absurd (by decide) q) (fun _ => ?_)
                  refine lv_aload_n hx hb dL_clusters_269 rfl (lv_at hl 5 rfl) ?_
                  refine lv_iload hx hb dL_clusters_270 (lv_at hl 4 rfl) ?_
                  refine z_vi (As := [.int (nI k)]) (rest := []) (P2 := zLW G ad na ma mm S f) (r := S.1.2.2 6 k) CF (z_lw hmm f (s_X4_deathRound l G ad na ma hd S hO k (by omega))) (cwV 1 hts gL_clusters_X4_deathRound rfl rfl rfl (by decide +kernel) ⟨Nat.le_of_ble_eq_true rfl, Nat.le_of_ble_eq_true rfl⟩) (zCP.rcv hK hW.1) hW hK hS (fun q _ h => hA q h) hA hl.1 rfl rfl (Nat.le_of_ble_eq_true rfl) dL_clusters_272 ⟨Nat.le_refl _, Nat.le_refl _⟩ (fun H locs hW hS _ => ?_)
                  refine z_top (x2 := -9) (q6) ?_
                  refine lv_aload_n hx hb dL_clusters_275 rfl (lv_at hl 5 rfl) ?_
                  refine z_vi (As := []) (rest := [.int (-9)]) (P2 := zLW G ad na ma mm S f) (r := S.1.2.2 11 10) CF (z_lw hmm f (s_X4_roundNumber l G ad na ma hd S hO)) (cwV 0 hts gL_clusters_X4_roundNumber rfl rfl rfl (by decide +kernel) ⟨Nat.le_of_ble_eq_true rfl, Nat.le_of_ble_eq_true rfl⟩) (zCP.rcv hK hW.1) hW hK hS (fun q _ h => hA q h) hA hl.1 rfl rfl (Nat.le_of_ble_eq_true rfl) dL_clusters_276 ⟨Nat.le_refl _, Nat.le_refl _⟩ (fun H locs hW hS _ => ?_)
                  refine z_top (x2 := nI R) (hR) ?_
                  refine lv_icmp_lt (tgt := 284) hx hb dL_clusters_279 (by decide) (fun _ => ?_) (fun q => absurd (zMl (by omega)) q)
                  refine lv_iinc (v := nI (k + 1)) (lv' := [(4, .int (nI (k + 1))), (7, .int (nI i)), (6, .int (zIt (zScS S.1.2.2 k h) n (0 : Int32))), (3, .int (v + 0)), (5, .int (nI h)), (0, .ref (ma 0)), (1, .ref mm), (2, .int (nI n))]) hx hb dL_clusters_284 hl (k := 4) rfl (nI_1 _) (by decide) rfl (fun ls hl => ?_)
                  refine lv_goto (tgt := 5) hx hb dL_clusters_287 (by decide) ?_
                  have e_9 : zIt (zHcS S.1.2.2) (k + 1) (0 : Int32) = v + 0 := by
                    rw [zIt_s, hF_v] <;> (first | with_reducible rfl | (simp only [zHcS, c_2, c_own, c_7, eq_self, ne_eq, not_true_eq_false, not_false_eq_true, and_true, true_and, and_self, and_false, false_and, true_or, or_true, false_or, or_false, reduceIte]; done) | (simp [zHcS, c_2, c_own, c_7]; done) | rfl | (simp_all [zHcS]; done))
                  refine ih1 (k + 1) _ _ _ (by omega) (by omega) ?_ hS ?_
                  · first | exact hW | (rw [e_9]; exact hW)
                  · first | exact lv_sub hl [0, 3, 5, 6, 7] rfl | (rw [e_9]; exact lv_sub hl [0, 3, 5, 6, 7] rfl)
                · skip
                  refine z_top (x2 := nI d) (q6) ?_
                  refine lv_bipush (v := -9) hx hb dL_clusters_241 (by decide) ?_
                  refine lv_icmp_ne (tgt := 250) hx hb dL_clusters_243 (by decide) (fun _ => ?_) (fun q => absurd q (zMn (by omega)))
                  refine lv_iconst (v := 0) hx hb dL_clusters_250 (by decide) ?_
                  refine lv_aload_n hx hb dL_clusters_251 rfl (lv_at hl 5 rfl) ?_
                  refine lv_iload hx hb dL_clusters_252 (lv_at hl 4 rfl) ?_
                  refine z_vi (As := [.int (nI k)]) (rest := [.int 0]) (P2 := zLW G ad na ma mm S f) (r := zBi (S.1.2.2 3 k = 1)) CF (z_lw hmm f (s_X4_isAlive l G ad na ma hd S hO k (by omega))) (cwV 1 hts gL_clusters_X4_isAlive rfl rfl rfl (by decide +kernel) ⟨Nat.le_of_ble_eq_true rfl, Nat.le_of_ble_eq_true rfl⟩) (zCP.rcv hK hW.1) hW hK hS (fun q _ h => hA q h) hA hl.1 rfl rfl (Nat.le_of_ble_eq_true rfl) dL_clusters_254 ⟨Nat.le_refl _, Nat.le_refl _⟩ (fun H locs hW hS _ => ?_)
                  refine z_top (x2 := 0) (zBi_f (by rw [q3]; decide)) ?_
                  refine lv_iconst (v := 1) hx hb dL_clusters_257 (by decide) ?_
                  refine lv_icmp_ne (tgt := 265) hx hb dL_clusters_258 (by decide) (fun _ => ?_) (fun q => absurd q (by decide))
                  refine lv_iconst (v := 0) hx hb dL_clusters_265 (by decide) ?_
                  refine lv_icmp_ne (tgt := 282) hx hb dL_clusters_266 (by decide) (fun q => absurd (by decide) q) (fun _ => ?_)
                  refine lv_aload_n hx hb dL_clusters_269 rfl (lv_at hl 5 rfl) ?_
                  refine lv_iload hx hb dL_clusters_270 (lv_at hl 4 rfl) ?_
                  refine z_vi (As := [.int (nI k)]) (rest := []) (P2 := zLW G ad na ma mm S f) (r := S.1.2.2 6 k) CF (z_lw hmm f (s_X4_deathRound l G ad na ma hd S hO k (by omega))) (cwV 1 hts gL_clusters_X4_deathRound rfl rfl rfl (by decide +kernel) ⟨Nat.le_of_ble_eq_true rfl, Nat.le_of_ble_eq_true rfl⟩) (zCP.rcv hK hW.1) hW hK hS (fun q _ h => hA q h) hA hl.1 rfl rfl (Nat.le_of_ble_eq_true rfl) dL_clusters_272 ⟨Nat.le_refl _, Nat.le_refl _⟩ (fun H locs hW hS _ => ?_)
                  refine z_top (x2 := nI d) (q6) ?_
                  refine lv_aload_n hx hb dL_clusters_275 rfl (lv_at hl 5 rfl) ?_
                  refine z_vi (As := []) (rest := [.int (nI d)]) (P2 := zLW G ad na ma mm S f) (r := S.1.2.2 11 10) CF (z_lw hmm f (s_X4_roundNumber l G ad na ma hd S hO)) (cwV 0 hts gL_clusters_X4_roundNumber rfl rfl rfl (by decide +kernel) ⟨Nat.le_of_ble_eq_true rfl, Nat.le_of_ble_eq_true rfl⟩) (zCP.rcv hK hW.1) hW hK hS (fun q _ h => hA q h) hA hl.1 rfl rfl (Nat.le_of_ble_eq_true rfl) dL_clusters_276 ⟨Nat.le_refl _, Nat.le_refl _⟩ (fun H locs hW hS _ => ?_)
                  refine z_top (x2 := nI R) (hR) ?_
                  refine lv_icmp_lt (tgt := 284) hx hb dL_clusters_279 (by decide) (fun _ => ?_) (fun q => absurd ((z_ltI (a := d) (b := R) (by omega) (by omega)).mpr (by omega)) q)
                  refine lv_iinc (v := nI (k + 1)) (lv' := [(4, .int (nI (k + 1))), (7, .int (nI i)), (6, .int (zIt (zScS S.1.2.2 k h) n (0 : Int32))), (3, .int (v + 0)), (5, .int (nI h)), (0, .ref (ma 0)), (1, .ref mm), (2, .int (nI n))]) hx hb dL_clusters_284 hl (k := 4) rfl (nI_1 _) (by decide) rfl (fun ls hl => ?_)
                  refine lv_goto (tgt := 5) hx hb dL_clusters_287 (by decide) ?_
                  have e_10 : zIt (zHcS S.1.2.2) (k + 1) (0 : Int32) = v + 0 := by
                    rw [zIt_s, hF_v] <;> (first | with_reducible rfl | (simp only [zHcS, c_2, c_own, c_7, eq_self, ne_eq, not_true_eq_false, not_false_eq_true, and_true, true_and, and_self, and_false, false_and, true_or, or_true, false_or, or_false, reduceIte]; done) | (simp [zHcS, c_2, c_own, c_7]; done) | rfl | (simp_all [zHcS]; done))
                  refine ih1 (k + 1) _ _ _ (by omega) (by omega) ?_ hS ?_
                  · first | exact hW | (rw [e_10]; exact hW)
                  · first | exact lv_sub hl [0, 3, 5, 6, 7] rfl | (rw [e_10]; exact lv_sub hl [0, 3, 5, 6, 7] rfl)
              · skip
                have c_8 := (not_congr (z_leI (a := n) (b := i) (by omega) (by omega))).mp c_8
                refine lv_aload_n hx hb dL_clusters_97 rfl (lv_at hl 5 rfl) ?_
                refine lv_iload hx hb dL_clusters_98 (lv_at hl 0 rfl) ?_
                refine z_vi (As := [.int (nI i)]) (rest := []) (P2 := zLW G ad na ma mm S f) (r := S.1.2.2 7 i) CF (z_lw hmm f (s_X4_headOf l G ad na ma hd S hO i (by omega))) (cwV 1 hts gL_clusters_X4_headOf rfl rfl rfl (by decide +kernel) ⟨Nat.le_of_ble_eq_true rfl, Nat.le_of_ble_eq_true rfl⟩) (zCP.rcv hK hW.1) hW hK hS (fun q _ h => hA q h) hA hl.1 rfl rfl (Nat.le_of_ble_eq_true rfl) dL_clusters_100 ⟨Nat.le_refl _, Nat.le_refl _⟩ (fun H locs hW hS _ => ?_)
                refine lv_iload hx hb dL_clusters_103 (lv_at hl 0 rfl) ?_
                refine lv_icmp_ne (tgt := 112) hx hb dL_clusters_105 (by decide) (fun c_11 => ?_) (fun c_12 => ?_)
                · skip
                  refine lv_iconst (v := 0) hx hb dL_clusters_112 (by decide) ?_
                  refine lv_istore (lv' := [(8, .int 0), (7, .int (nI i)), (6, .int u), (3, .int (v + 0)), (5, .int (nI h)), (4, .int (nI k)), (0, .ref (ma 0)), (1, .ref mm), (2, .int (nI n))]) hx hb dL_clusters_113 hl (by decide) rfl (fun ls hl => ?_)
                  refine lv_iload hx hb dL_clusters_115 (lv_at hl 0 rfl) ?_
                  refine lv_if_eq (tgt := 167) hx hb dL_clusters_117 (by decide) (fun _ => ?_) (fun q => absurd (by decide) q)
                  refine lv_iload hx hb dL_clusters_167 (lv_at hl 2 rfl) ?_
                  refine lv_iload hx hb dL_clusters_169 (lv_at hl 1 rfl) ?_
                  refine lv_iload hx hb dL_clusters_171 (lv_at hl 5 rfl) ?_
                  refine lv_icmp_ge (tgt := 196) hx hb dL_clusters_173 (by decide) (fun c_13 => ?_) (fun c_14 => ?_)
                  · skip
                    have c_13 := (z_leI (a := k) (b := i) (by omega) (by omega)).mp c_13
                    refine lv_iconst (v := 0) hx hb dL_clusters_196 (by decide) ?_
                    refine lv_iadd hx hb dL_clusters_197 ?_
                    refine lv_istore (lv' := [(6, .int (u + 0)), (8, .int 0), (7, .int (nI i)), (3, .int (v + 0)), (5, .int (nI h)), (4, .int (nI k)), (0, .ref (ma 0)), (1, .ref mm), (2, .int (nI n))]) hx hb dL_clusters_198 hl (by decide) rfl (fun ls hl => ?_)
                    refine lv_iinc (v := nI (i + 1)) (lv' := [(7, .int (nI (i + 1))), (6, .int (u + 0)), (8, .int 0), (3, .int (v + 0)), (5, .int (nI h)), (4, .int (nI k)), (0, .ref (ma 0)), (1, .ref mm), (2, .int (nI n))]) hx hb dL_clusters_200 hl (k := 2) rfl (nI_1 _) (by decide) rfl (fun ls hl => ?_)
                    refine lv_goto (tgt := 91) hx hb dL_clusters_203 (by decide) ?_
                    have e_15 : zIt (zScS S.1.2.2 k h) (i + 1) (0 : Int32) = u + 0 := by
                      show zIt (zScS S.1.2.2 k h) i 0 + (if ¬ k ≤ i ∧ ¬ S.1.2.2 7 i = nI i ∧ S.1.2.2 7 i = nI h then 1 else 0) = _
                      rw [hF_u, if_neg (fun q => q.1 c_13)]
                    refine ih2 (i + 1) _ _ _ (by omega) (by omega) ?_ hS ?_
                    · first | exact hW | (rw [e_15]; exact hW)
                    · first | exact lv_sub hl [0, 1, 3, 4, 5, 6, 7, 8] rfl | (rw [e_15]; exact lv_sub hl [0, 1, 3, 4, 5, 6, 7, 8] rfl)
                  · skip
                    have c_14 := (not_congr (z_leI (a := k) (b := i) (by omega) (by omega))).mp c_14
                    refine lv_iload hx hb dL_clusters_176 (lv_at hl 0 rfl) ?_
                    refine lv_if_ne (tgt := 196) hx hb dL_clusters_178 (by decide) (fun q => absurd (by decide) q) (fun _ => ?_)
                    refine lv_aload_n hx hb dL_clusters_181 rfl (lv_at hl 6 rfl) ?_
                    refine lv_iload hx hb dL_clusters_182 (lv_at hl 1 rfl) ?_
                    refine z_vi (As := [.int (nI i)]) (rest := [.int u]) (P2 := zLW G ad na ma mm S f) (r := S.1.2.2 7 i) CF (z_lw hmm f (s_X4_headOf l G ad na ma hd S hO i (by omega))) (cwV 1 hts gL_clusters_X4_headOf rfl rfl rfl (by decide +kernel) ⟨Nat.le_of_ble_eq_true rfl, Nat.le_of_ble_eq_true rfl⟩) (zCP.rcv hK hW.1) hW hK hS (fun q _ h => hA q h) hA hl.1 rfl rfl (Nat.le_of_ble_eq_true rfl) dL_clusters_184 ⟨Nat.le_refl _, Nat.le_refl _⟩ (fun H locs hW hS _ => ?_)
                    refine lv_iload hx hb dL_clusters_187 (lv_at hl 4 rfl) ?_
                    refine lv_icmp_ne (tgt := 196) hx hb dL_clusters_189 (by decide) (fun c_16 => ?_) (fun c_17 => ?_)
                    · skip
                      refine lv_iconst (v := 0) hx hb dL_clusters_196 (by decide) ?_
                      refine lv_iadd hx hb dL_clusters_197 ?_
                      refine lv_istore (lv' := [(6, .int (u + 0)), (8, .int 0), (7, .int (nI i)), (3, .int (v + 0)), (5, .int (nI h)), (4, .int (nI k)), (0, .ref (ma 0)), (1, .ref mm), (2, .int (nI n))]) hx hb dL_clusters_198 hl (by decide) rfl (fun ls hl => ?_)
                      refine lv_iinc (v := nI (i + 1)) (lv' := [(7, .int (nI (i + 1))), (6, .int (u + 0)), (8, .int 0), (3, .int (v + 0)), (5, .int (nI h)), (4, .int (nI k)), (0, .ref (ma 0)), (1, .ref mm), (2, .int (nI n))]) hx hb dL_clusters_200 hl (k := 2) rfl (nI_1 _) (by decide) rfl (fun ls hl => ?_)
                      refine lv_goto (tgt := 91) hx hb dL_clusters_203 (by decide) ?_
                      have e_18 : zIt (zScS S.1.2.2 k h) (i + 1) (0 : Int32) = u + 0 := by
                        show zIt (zScS S.1.2.2 k h) i 0 + (if ¬ k ≤ i ∧ ¬ S.1.2.2 7 i = nI i ∧ S.1.2.2 7 i = nI h then 1 else 0) = _
                        rw [hF_u, if_neg (fun q => c_16 q.2.2)]
                      refine ih2 (i + 1) _ _ _ (by omega) (by omega) ?_ hS ?_
                      · first | exact hW | (rw [e_18]; exact hW)
                      · first | exact lv_sub hl [0, 1, 3, 4, 5, 6, 7, 8] rfl | (rw [e_18]; exact lv_sub hl [0, 1, 3, 4, 5, 6, 7, 8] rfl)
                    · skip
                      refine lv_iconst (v := 1) hx hb dL_clusters_192 (by decide) ?_
                      refine lv_goto (tgt := 197) hx hb dL_clusters_193 (by decide) ?_
                      refine lv_iadd hx hb dL_clusters_197 ?_
                      refine lv_istore (lv' := [(6, .int (u + 1)), (8, .int 0), (7, .int (nI i)), (3, .int (v + 0)), (5, .int (nI h)), (4, .int (nI k)), (0, .ref (ma 0)), (1, .ref mm), (2, .int (nI n))]) hx hb dL_clusters_198 hl (by decide) rfl (fun ls hl => ?_)
                      refine lv_iinc (v := nI (i + 1)) (lv' := [(7, .int (nI (i + 1))), (6, .int (u + 1)), (8, .int 0), (3, .int (v + 0)), (5, .int (nI h)), (4, .int (nI k)), (0, .ref (ma 0)), (1, .ref mm), (2, .int (nI n))]) hx hb dL_clusters_200 hl (k := 2) rfl (nI_1 _) (by decide) rfl (fun ls hl => ?_)
                      refine lv_goto (tgt := 91) hx hb dL_clusters_203 (by decide) ?_
                      have e_19 : zIt (zScS S.1.2.2 k h) (i + 1) (0 : Int32) = u + 1 := by
                        show zIt (zScS S.1.2.2 k h) i 0 + (if ¬ k ≤ i ∧ ¬ S.1.2.2 7 i = nI i ∧ S.1.2.2 7 i = nI h then 1 else 0) = _
                        rw [hF_u, if_pos ⟨c_14, c_11, c_17⟩]
                      refine ih2 (i + 1) _ _ _ (by omega) (by omega) ?_ hS ?_
                      · first | exact hW | (rw [e_19]; exact hW)
                      · first | exact lv_sub hl [0, 1, 3, 4, 5, 6, 7, 8] rfl | (rw [e_19]; exact lv_sub hl [0, 1, 3, 4, 5, 6, 7, 8] rfl)
                · skip
                  refine lv_iconst (v := 1) hx hb dL_clusters_108 (by decide) ?_
                  refine lv_goto (tgt := 113) hx hb dL_clusters_109 (by decide) ?_
                  refine lv_istore (lv' := [(8, .int 1), (7, .int (nI i)), (6, .int u), (3, .int (v + 0)), (5, .int (nI h)), (4, .int (nI k)), (0, .ref (ma 0)), (1, .ref mm), (2, .int (nI n))]) hx hb dL_clusters_113 hl (by decide) rfl (fun ls hl => ?_)
                  refine lv_iload hx hb dL_clusters_115 (lv_at hl 0 rfl) ?_
                  refine lv_if_eq (tgt := 167) hx hb dL_clusters_117 (by decide) (fun q => absurd q (by decide)) (fun _ => ?_)
                  refine lv_aload_n hx hb dL_clusters_120 rfl (lv_at hl 7 rfl) ?_
                  refine lv_iload hx hb dL_clusters_121 (lv_at hl 5 rfl) ?_
                  refine lv_iload hx hb dL_clusters_123 (lv_at hl 1 rfl) ?_
                  refine z_si (As := [.ref mm, .int (nI k), .int (nI i)]) (rest := []) (P2 := zLW G ad na ma mm S f) (r := zFa2 f k i) CF (l_far l G ad na ma mm S f k i (by omega) (by omega)) (cwS 3 hts gL_clusters_L_far rfl rfl rfl (by decide +kernel) ⟨Nat.le_of_ble_eq_true rfl, Nat.le_of_ble_eq_true rfl⟩) hW hK hS (fun q _ h => hA q h) hA hl.1 rfl rfl (Nat.le_of_ble_eq_true rfl) dL_clusters_125 ⟨Nat.le_refl _, Nat.le_refl _⟩ (fun H locs hW hS _ => ?_)
                  refine lv_aload_n hx hb dL_clusters_128 rfl (lv_at hl 7 rfl) ?_
                  refine lv_iload hx hb dL_clusters_129 (lv_at hl 5 rfl) ?_
                  refine lv_iload hx hb dL_clusters_131 (lv_at hl 4 rfl) ?_
                  refine z_si (As := [.ref mm, .int (nI k), .int (nI h)]) (rest := [.int (zFa2 f k i)]) (P2 := zLW G ad na ma mm S f) (r := zFa2 f k h) CF (l_far l G ad na ma mm S f k h (by omega) (by omega)) (cwS 3 hts gL_clusters_L_far rfl rfl rfl (by decide +kernel) ⟨Nat.le_of_ble_eq_true rfl, Nat.le_of_ble_eq_true rfl⟩) hW hK hS (fun q _ h => hA q h) hA hl.1 rfl rfl (Nat.le_of_ble_eq_true rfl) dL_clusters_133 ⟨Nat.le_refl _, Nat.le_refl _⟩ (fun H locs hW hS _ => ?_)
                  refine lv_icmp_lt (tgt := 165) hx hb dL_clusters_136 (by decide) (fun q => absurd q (qf i (by omega) c_12).1) (fun _ => ?_)
                  refine lv_aload_n hx hb dL_clusters_139 rfl (lv_at hl 7 rfl) ?_
                  refine lv_iload hx hb dL_clusters_140 (lv_at hl 5 rfl) ?_
                  refine lv_iload hx hb dL_clusters_142 (lv_at hl 1 rfl) ?_
                  refine z_si (As := [.ref mm, .int (nI k), .int (nI i)]) (rest := []) (P2 := zLW G ad na ma mm S f) (r := zFa2 f k i) CF (l_far l G ad na ma mm S f k i (by omega) (by omega)) (cwS 3 hts gL_clusters_L_far rfl rfl rfl (by decide +kernel) ⟨Nat.le_of_ble_eq_true rfl, Nat.le_of_ble_eq_true rfl⟩) hW hK hS (fun q _ h => hA q h) hA hl.1 rfl rfl (Nat.le_of_ble_eq_true rfl) dL_clusters_144 ⟨Nat.le_refl _, Nat.le_refl _⟩ (fun H locs hW hS _ => ?_)
                  refine lv_aload_n hx hb dL_clusters_147 rfl (lv_at hl 7 rfl) ?_
                  refine lv_iload hx hb dL_clusters_148 (lv_at hl 5 rfl) ?_
                  refine lv_iload hx hb dL_clusters_150 (lv_at hl 4 rfl) ?_
                  refine z_si (As := [.ref mm, .int (nI k), .int (nI h)]) (rest := [.int (zFa2 f k i)]) (P2 := zLW G ad na ma mm S f) (r := zFa2 f k h) CF (l_far l G ad na ma mm S f k h (by omega) (by omega)) (cwS 3 hts gL_clusters_L_far rfl rfl rfl (by decide +kernel) ⟨Nat.le_of_ble_eq_true rfl, Nat.le_of_ble_eq_true rfl⟩) hW hK hS (fun q _ h => hA q h) hA hl.1 rfl rfl (Nat.le_of_ble_eq_true rfl) dL_clusters_152 ⟨Nat.le_refl _, Nat.le_refl _⟩ (fun H locs hW hS _ => ?_)
                  refine lv_icmp_ne (tgt := 167) hx hb dL_clusters_155 (by decide) (fun c_20 => ?_) (fun c_21 => ?_)
                  · skip
                    refine lv_iload hx hb dL_clusters_167 (lv_at hl 2 rfl) ?_
                    refine lv_iload hx hb dL_clusters_169 (lv_at hl 1 rfl) ?_
                    refine lv_iload hx hb dL_clusters_171 (lv_at hl 5 rfl) ?_
                    refine lv_icmp_ge (tgt := 196) hx hb dL_clusters_173 (by decide) (fun c_22 => ?_) (fun c_23 => ?_)
                    · skip
                      have c_22 := (z_leI (a := k) (b := i) (by omega) (by omega)).mp c_22
                      refine lv_iconst (v := 0) hx hb dL_clusters_196 (by decide) ?_
                      refine lv_iadd hx hb dL_clusters_197 ?_
                      refine lv_istore (lv' := [(6, .int (u + 0)), (8, .int 1), (7, .int (nI i)), (3, .int (v + 0)), (5, .int (nI h)), (4, .int (nI k)), (0, .ref (ma 0)), (1, .ref mm), (2, .int (nI n))]) hx hb dL_clusters_198 hl (by decide) rfl (fun ls hl => ?_)
                      refine lv_iinc (v := nI (i + 1)) (lv' := [(7, .int (nI (i + 1))), (6, .int (u + 0)), (8, .int 1), (3, .int (v + 0)), (5, .int (nI h)), (4, .int (nI k)), (0, .ref (ma 0)), (1, .ref mm), (2, .int (nI n))]) hx hb dL_clusters_200 hl (k := 2) rfl (nI_1 _) (by decide) rfl (fun ls hl => ?_)
                      refine lv_goto (tgt := 91) hx hb dL_clusters_203 (by decide) ?_
                      have e_24 : zIt (zScS S.1.2.2 k h) (i + 1) (0 : Int32) = u + 0 := by
                        show zIt (zScS S.1.2.2 k h) i 0 + (if ¬ k ≤ i ∧ ¬ S.1.2.2 7 i = nI i ∧ S.1.2.2 7 i = nI h then 1 else 0) = _
                        rw [hF_u, if_neg (fun q => q.2.1 c_12)]
                      refine ih2 (i + 1) _ _ _ (by omega) (by omega) ?_ hS ?_
                      · first | exact hW | (rw [e_24]; exact hW)
                      · first | exact lv_sub hl [0, 1, 3, 4, 5, 6, 7, 8] rfl | (rw [e_24]; exact lv_sub hl [0, 1, 3, 4, 5, 6, 7, 8] rfl)
                    · skip
                      have c_23 := (not_congr (z_leI (a := k) (b := i) (by omega) (by omega))).mp c_23
                      refine lv_iload hx hb dL_clusters_176 (lv_at hl 0 rfl) ?_
                      refine lv_if_ne (tgt := 196) hx hb dL_clusters_178 (by decide) (fun _ => ?_) (fun q => absurd q (by decide))
                      refine lv_iconst (v := 0) hx hb dL_clusters_196 (by decide) ?_
                      refine lv_iadd hx hb dL_clusters_197 ?_
                      refine lv_istore (lv' := [(6, .int (u + 0)), (8, .int 1), (7, .int (nI i)), (3, .int (v + 0)), (5, .int (nI h)), (4, .int (nI k)), (0, .ref (ma 0)), (1, .ref mm), (2, .int (nI n))]) hx hb dL_clusters_198 hl (by decide) rfl (fun ls hl => ?_)
                      refine lv_iinc (v := nI (i + 1)) (lv' := [(7, .int (nI (i + 1))), (6, .int (u + 0)), (8, .int 1), (3, .int (v + 0)), (5, .int (nI h)), (4, .int (nI k)), (0, .ref (ma 0)), (1, .ref mm), (2, .int (nI n))]) hx hb dL_clusters_200 hl (k := 2) rfl (nI_1 _) (by decide) rfl (fun ls hl => ?_)
                      refine lv_goto (tgt := 91) hx hb dL_clusters_203 (by decide) ?_
                      have e_25 : zIt (zScS S.1.2.2 k h) (i + 1) (0 : Int32) = u + 0 := by
                        show zIt (zScS S.1.2.2 k h) i 0 + (if ¬ k ≤ i ∧ ¬ S.1.2.2 7 i = nI i ∧ S.1.2.2 7 i = nI h then 1 else 0) = _
                        rw [hF_u, if_neg (fun q => q.2.1 c_12)]
                      refine ih2 (i + 1) _ _ _ (by omega) (by omega) ?_ hS ?_
                      · first | exact hW | (rw [e_25]; exact hW)
                      · first | exact lv_sub hl [0, 1, 3, 4, 5, 6, 7, 8] rfl | (rw [e_25]; exact lv_sub hl [0, 1, 3, 4, 5, 6, 7, 8] rfl)
                  · skip
                    have hnl := (qf i (by omega) c_12).2 c_21
                    refine lv_iload hx hb dL_clusters_158 (lv_at hl 1 rfl) ?_
                    refine lv_iload hx hb dL_clusters_160 (lv_at hl 4 rfl) ?_
                    refine lv_icmp_ge (tgt := 167) hx hb dL_clusters_162 (by decide) (fun _ => ?_) (fun q => absurd ((z_leI (a := h) (b := i) (by omega) (by omega)).mpr (by omega)) q)
                    refine lv_iload hx hb dL_clusters_167 (lv_at hl 2 rfl) ?_
                    refine lv_iload hx hb dL_clusters_169 (lv_at hl 1 rfl) ?_
                    refine lv_iload hx hb dL_clusters_171 (lv_at hl 5 rfl) ?_
                    refine lv_icmp_ge (tgt := 196) hx hb dL_clusters_173 (by decide) (fun c_26 => ?_) (fun c_27 => ?_)
                    · skip
                      have c_26 := (z_leI (a := k) (b := i) (by omega) (by omega)).mp c_26
                      refine lv_iconst (v := 0) hx hb dL_clusters_196 (by decide) ?_
                      refine lv_iadd hx hb dL_clusters_197 ?_
                      refine lv_istore (lv' := [(6, .int (u + 0)), (8, .int 1), (7, .int (nI i)), (3, .int (v + 0)), (5, .int (nI h)), (4, .int (nI k)), (0, .ref (ma 0)), (1, .ref mm), (2, .int (nI n))]) hx hb dL_clusters_198 hl (by decide) rfl (fun ls hl => ?_)
                      refine lv_iinc (v := nI (i + 1)) (lv' := [(7, .int (nI (i + 1))), (6, .int (u + 0)), (8, .int 1), (3, .int (v + 0)), (5, .int (nI h)), (4, .int (nI k)), (0, .ref (ma 0)), (1, .ref mm), (2, .int (nI n))]) hx hb dL_clusters_200 hl (k := 2) rfl (nI_1 _) (by decide) rfl (fun ls hl => ?_)
                      refine lv_goto (tgt := 91) hx hb dL_clusters_203 (by decide) ?_
                      have e_28 : zIt (zScS S.1.2.2 k h) (i + 1) (0 : Int32) = u + 0 := by
                        show zIt (zScS S.1.2.2 k h) i 0 + (if ¬ k ≤ i ∧ ¬ S.1.2.2 7 i = nI i ∧ S.1.2.2 7 i = nI h then 1 else 0) = _
                        rw [hF_u, if_neg (fun q => q.2.1 c_12)]
                      refine ih2 (i + 1) _ _ _ (by omega) (by omega) ?_ hS ?_
                      · first | exact hW | (rw [e_28]; exact hW)
                      · first | exact lv_sub hl [0, 1, 3, 4, 5, 6, 7, 8] rfl | (rw [e_28]; exact lv_sub hl [0, 1, 3, 4, 5, 6, 7, 8] rfl)
                    · skip
                      have c_27 := (not_congr (z_leI (a := k) (b := i) (by omega) (by omega))).mp c_27
                      refine lv_iload hx hb dL_clusters_176 (lv_at hl 0 rfl) ?_
                      refine lv_if_ne (tgt := 196) hx hb dL_clusters_178 (by decide) (fun _ => ?_) (fun q => absurd q (by decide))
                      refine lv_iconst (v := 0) hx hb dL_clusters_196 (by decide) ?_
                      refine lv_iadd hx hb dL_clusters_197 ?_
                      refine lv_istore (lv' := [(6, .int (u + 0)), (8, .int 1), (7, .int (nI i)), (3, .int (v + 0)), (5, .int (nI h)), (4, .int (nI k)), (0, .ref (ma 0)), (1, .ref mm), (2, .int (nI n))]) hx hb dL_clusters_198 hl (by decide) rfl (fun ls hl => ?_)
                      refine lv_iinc (v := nI (i + 1)) (lv' := [(7, .int (nI (i + 1))), (6, .int (u + 0)), (8, .int 1), (3, .int (v + 0)), (5, .int (nI h)), (4, .int (nI k)), (0, .ref (ma 0)), (1, .ref mm), (2, .int (nI n))]) hx hb dL_clusters_200 hl (k := 2) rfl (nI_1 _) (by decide) rfl (fun ls hl => ?_)
                      refine lv_goto (tgt := 91) hx hb dL_clusters_203 (by decide) ?_
                      have e_29 : zIt (zScS S.1.2.2 k h) (i + 1) (0 : Int32) = u + 0 := by
                        show zIt (zScS S.1.2.2 k h) i 0 + (if ¬ k ≤ i ∧ ¬ S.1.2.2 7 i = nI i ∧ S.1.2.2 7 i = nI h then 1 else 0) = _
                        rw [hF_u, if_neg (fun q => q.2.1 c_12)]
                      refine ih2 (i + 1) _ _ _ (by omega) (by omega) ?_ hS ?_
                      · first | exact hW | (rw [e_29]; exact hW)
                      · first | exact lv_sub hl [0, 1, 3, 4, 5, 6, 7, 8] rfl | (rw [e_29]; exact lv_sub hl [0, 1, 3, 4, 5, 6, 7, 8] rfl)
          exact loop2 (n + 1) 0 _ _ _ (by omega) (by omega) hW hS (lv_sub hl [0, 1, 2, 3, 4, 5, 6, 7] rfl)
  exact loop1 (n + 1) 0 _ _ _ (by omega) (by omega) hW hS (lv_sub hl [0, 1, 2, 3, 4] rfl)
