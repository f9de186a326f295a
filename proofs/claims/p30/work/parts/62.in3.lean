theorem in_X1_init_X1 : ∀ w ∈ wsX10, w ∈ wsX1_init := by decide +kernel
theorem in_X1_init_X3 : ∀ w ∈ wsX30, w ∈ wsX1_init := by decide +kernel
set_option maxHeartbeats 4000000 in
theorem k_X3_init (l : Launch) (G : zG) (A : Nat → Prop) (P : Heap → Prop) (a : Nat) : zMv l G A yX3_init wsX3_init 1 12 [.ref a] P P := by
  refine z_met (cc := cX3_init) (maxL := 1) (ret := none) (by decide) rfl (Nat.le_of_ble_eq_true rfl) ?_
  intro p e s m below meth c ls S hr hlk hnm hP hK hl
  have S : CallFix p m c cX3_init 1 s _ wsX3_init RX3 := S
  obtain ⟨hx, hb, hml, hown, hts⟩ := id S
  have hS : va_S A s.heap s.heap [] := va_S.rf
  have hl : lv_has ls 1 [(0, .ref a)] := hl
  refine lv_aload_n hx hb dX3_init_0 rfl (lv_at hl 0 rfl) ?_
  refine W.objInit hx hb hown (hts _ (List.mem_of_getElem? (i := 1) (by decide +kernel))) (hts _ (List.mem_of_getElem? (i := 2) (by decide +kernel))) (hts _ (List.mem_of_getElem? (i := 3) (by decide +kernel))) rfl (by rw [hml]; exact hl.1) rfl dX3_init_1 (Nat.le_of_ble_eq_true rfl) (Nat.le_of_ble_eq_true rfl) ?_
  refine W.eq (g2 := F0 m 4 ls []) rfl ?_
  exact z_vret hx hb hr hlk hK hS hP dX3_init_4
theorem zArr_ext {cA : ClassId} {n : Nat} {f g : Nat → Option Nat} (h : ∀ i, i < n → f i = g i) : vp_cell cA (n, .inr (.inr (.inr (.inr f)))) = vp_cell cA (n, .inr (.inr (.inr (.inr g)))) := by
  rw [vp_cell_q, vp_cell_q]
  unfold arrV
  congr 2
  funext j
  show va_rf (f j.val) = va_rf (g j.val)
  rw [h j.val j.isLt]
theorem zArr_exI {cA : ClassId} {n : Nat} {f g : Nat → Int32} (h : ∀ i, i < n → f i = g i) : vp_cell cA (n, .inl f) = vp_cell cA (n, .inl g) := by
  show arrV cA n (fun j => .int (f j)) = arrV cA n (fun j => .int (g j))
  unfold arrV
  congr 2
  funext j
  show Value.int (f j.val) = Value.int (g j.val)
  rw [h j.val j.isLt]
theorem zg0_3 {j : Nat} (h : j < 6) : zg0 (3 + j) = zFi j := by
  unfold zg0
  rw [if_neg (by omega), if_neg (by omega), if_pos (by omega)]
  congr 1
  omega
/-- the finished network -/
theorem zNk_end {G : zG} {ad : Nat → Nat} {A : Nat → Prop} {H : Heap} (hP : va_P G.1 vwCl ((zNk G ad 12).set 2 (ad 2, .inl (G.2.2.1, 6, .inl (va_cpy zFi (fun _ => 0) 0 0 6)))) H) (hD : va_D A ((zNk G ad 12).set 2 (ad 2, .inl (G.2.2.1, 6, .inl (va_cpy zFi (fun _ => 0) 0 0 6))))) : va_P G.1 vwCl (zNet G ad 0 zg0 zτ0) H ∧ va_D A (zNet G ad 0 zg0 zτ0) := by
  have key : ∀ (k : Nat) (q : Nat × va_E), (zNet G ad 0 zg0 zτ0)[k]? = some q → ∃ q2 : Nat × va_E, ((zNk G ad 12).set 2 (ad 2, .inl (G.2.2.1, 6, .inl (va_cpy zFi (fun _ => 0) 0 0 6))))[k]? = some q2 ∧ q2.1 = q.1 ∧ (va_at G.1 vwCl q2 H → va_at G.1 vwCl q H) := by
    intro k q hk
    match k with
    | 0 => cases hk; exact ⟨_, rfl, rfl, fun h => h⟩
    | 1 =>
      cases hk
      refine ⟨_, rfl, rfl, fun h => ?_⟩
      have h : H[ad 1]? = some (vp_cell G.2.1 (12, .inr (.inr (.inr (.inr (fun i => if i < 12 then some (ad (3 + i)) else none)))))) := h
      show H[ad 1]? = some (vp_cell _ _)
      rw [h, zArr_ext]
      intro i hi
      exact if_pos hi
    | 2 =>
      cases hk
      refine ⟨_, rfl, rfl, fun h => ?_⟩
      have h : H[ad 2]? = some (vp_cell G.2.2.1 (6, .inl (va_cpy zFi (fun _ => 0) 0 0 6))) := h
      show H[ad 2]? = some (vp_cell _ _)
      rw [h, zArr_exI]
      intro i hi
      rw [zg0_3 hi]
      show (if 0 ≤ i ∧ i < 0 + 6 then zFi (0 + (i - 0)) else 0) = zFi i
      rw [if_pos (by omega)]
      congr 1
      omega
    | k + 3 => exact ⟨q, hk, rfl, fun h => h⟩
  refine ⟨fun k q hk => ?_, fun i j p q hi hj hpq => ?_, fun k q hk => ?_⟩
  · obtain ⟨q2, h1, h2, h3⟩ := key k q hk
    exact h3 (hP k q2 h1)
  · obtain ⟨p2, a1, a2, -⟩ := key i p hi
    obtain ⟨q2, b1, b2, -⟩ := key j q hj
    exact hD.1 i j p2 q2 a1 b1 (a2.trans (hpq.trans b2.symm))
  · obtain ⟨q2, h1, h2, -⟩ := key k q hk
    rw [← h2]
    exact hD.2 k q2 h1
set_option maxHeartbeats 4000000 in
theorem k_X1_init (l : Launch) (G : zG) (a sz : Nat) : zMc l G (zFr a sz) yX1_init wsX1_init 2 64 14 150 [.ref a] (fun H => H.size = sz ∧ a < sz ∧ va_P G.1 vwCl [(a, .inr (1, zO1))] H) (fun H => ∃ ad : Nat → Nat, ad 0 = a ∧ va_P G.1 vwCl (zNet G ad 0 zg0 zτ0) H ∧ va_D (zFr a sz) (zNet G ad 0 zg0 zτ0)) := by
  refine z_metC (cc := cX1_init) (maxL := 2) (ret := none) (by decide) rfl (Nat.le_of_ble_eq_true rfl) ?_
  intro p e s m below meth c ls S hr hlk hnm hP hK hE hl
  have S : CallFix p m c cX1_init 2 s _ wsX1_init RX1 := S
  obtain ⟨hx, hb, hml, hown, hts⟩ := id S
  obtain ⟨rfl, hasz, hP⟩ := hP
  have hA : ∀ q : Nat, s.heap.size ≤ q → zFr a s.heap.size q := fun q h => Or.inr h
  have hD : va_D (zFr a s.heap.size) [((a, .inr (1, zO1)) : Nat × va_E)] := ⟨fun i j p q hi hj _ => by
    have h1 : i < 1 := (List.getElem?_eq_some_iff.mp hi).1
    have h2 : j < 1 := (List.getElem?_eq_some_iff.mp hj).1
    omega, fun k q hk => by
    have h1 : k < 1 := (List.getElem?_eq_some_iff.mp hk).1
    rw [show k = 0 by omega] at hk
    cases hk
    exact Or.inl rfl⟩
  generalize hAe : zFr a s.heap.size = A at hA hD hE ⊢
  have hS : va_S A s.heap s.heap [] := va_S.rf
  have hl : lv_has ls 2 [(0, .ref a)] := hl
  refine lv_aload_n hx hb dX1_init_0 rfl (lv_at hl 0 rfl) ?_
  refine W.objInit hx hb hown (hts _ (List.mem_of_getElem? (i := 1) (by decide +kernel))) (hts _ (List.mem_of_getElem? (i := 2) (by decide +kernel))) (hts _ (List.mem_of_getElem? (i := 3) (by decide +kernel))) rfl (by rw [hml]; exact hl.1) rfl dX1_init_1 (Nat.le_of_ble_eq_true rfl) (Nat.le_of_ble_eq_true rfl) ?_
  refine W.eq (g2 := F0 m 4 ls []) rfl ?_
  refine lv_aload_n hx hb dX1_init_4 rfl (lv_at hl 0 rfl) ?_
  refine lv_bipush (v := 12) hx hb dX1_init_5 (by decide) ?_
  refine va_newq (C := RX3) (N' := 12) hx hb hown (hts _ (List.mem_of_getElem? (i := 4) (by decide +kernel))) hE.2.1 hK hP hD hS hA (by decide) (by decide) (Nat.le_of_ble_eq_true rfl) (Nat.le_of_ble_eq_true rfl) (Nat.le_of_ble_eq_true rfl) dX1_init_7 (fun q1 cA H hK2 hP hD hS => ?_)
  obtain rfl : cA = G.2.1 := zCA_o (zK_of hK2) (hK.2 0 _ rfl).2
  refine va_putF (D := G.1) (ci := 1) (C := RX1) (T := TX1) (N := 11) hx hb hts in_X1_init_X1 tyX1 tyX1_ok nmX1 hown hK hP hD hS 0 (fs := zO1) rfl rfl 0 (by decide) (hts _ (List.mem_of_getElem? (i := 5) (by decide +kernel))) (fun _ h => h) rfl hnm rfl (tyX1_ok 0 (by decide)) rfl rfl (by decide) dX1_init_10 (fun H locs hP hD hS => ?_)
  refine lv_aload_n hx hb dX1_init_13 rfl (lv_at hl 0 rfl) ?_
  refine lv_bipush (v := 6) hx hb dX1_init_14 (by decide) ?_
  refine va_newa (atype := .int) (ty := .int) (N' := 6) (a0 := (6, .inl (fun _ => 0))) hx hb (hts _ (List.mem_of_getElem? (i := 6) (by decide +kernel))) rfl hK hP hD hS hA (fun _ => rfl) (by decide) (by decide) (Nat.le_of_ble_eq_true rfl) (Nat.le_of_ble_eq_true rfl) (Nat.le_of_ble_eq_true rfl) dX1_init_16 (fun q2 cA H hK2 hP hD hS => ?_)
  obtain rfl : cA = G.2.2.1 := zCA_i (zK_of hK2) (hK.2 1 _ rfl).2
  refine va_putF (D := G.1) (ci := 1) (C := RX1) (T := TX1) (N := 11) hx hb hts in_X1_init_X1 tyX1 tyX1_ok nmX1 hown hK hP hD hS 0 (fs := zO1.set 0 (.ref q1)) rfl rfl 1 (by decide) (hts _ (List.mem_of_getElem? (i := 7) (by decide +kernel))) (fun _ h => h) rfl hnm rfl (tyX1_ok 1 (by decide)) rfl rfl (by simp) dX1_init_18 (fun H locs hP hD hS => ?_)
  refine lv_aload_n hx hb dX1_init_21 rfl (lv_at hl 0 rfl) ?_
  refine lv_bipush (v := 50) hx hb dX1_init_22 (by decide) ?_
  refine va_put (D := G.1) (ci := 1) (C := RX1) (T := TX1) (N := 11) hx hb hts in_X1_init_X1 tyX1 tyX1_ok nmX1 hown hK hP hD hS 0 (fs := (zO1.set 0 (.ref q1)).set 1 (.ref q2)) rfl rfl 3 (by decide) (hts _ (List.mem_of_getElem? (i := 8) (by decide +kernel))) (fun _ h => h) rfl (tyX1_ok 3 (by decide)) rfl rfl (by simp) dX1_init_24 (fun H locs hP hD hS => ?_)
  refine lv_aload_n hx hb dX1_init_27 rfl (lv_at hl 0 rfl) ?_
  refine lv_sipush (v := 150) hx hb dX1_init_28 (by decide) ?_
  refine va_put (D := G.1) (ci := 1) (C := RX1) (T := TX1) (N := 11) hx hb hts in_X1_init_X1 tyX1 tyX1_ok nmX1 hown hK hP hD hS 0 (fs := ((zO1.set 0 (.ref q1)).set 1 (.ref q2)).set 3 (.int 50)) rfl rfl 4 (by decide) (hts _ (List.mem_of_getElem? (i := 9) (by decide +kernel))) (fun _ h => h) rfl (tyX1_ok 4 (by decide)) rfl rfl (by simp) dX1_init_31 (fun H locs hP hD hS => ?_)
  refine lv_aload_n hx hb dX1_init_34 rfl (lv_at hl 0 rfl) ?_
  refine lv_iconst (v := 1) hx hb dX1_init_35 (by decide) ?_
  refine va_put (D := G.1) (ci := 1) (C := RX1) (T := TX1) (N := 11) hx hb hts in_X1_init_X1 tyX1 tyX1_ok nmX1 hown hK hP hD hS 0 (fs := (((zO1.set 0 (.ref q1)).set 1 (.ref q2)).set 3 (.int 50)).set 4 (.int 150)) rfl rfl 5 (by decide) (hts _ (List.mem_of_getElem? (i := 10) (by decide +kernel))) (fun _ h => h) rfl (tyX1_ok 5 (by decide)) rfl rfl (by simp) dX1_init_36 (fun H locs hP hD hS => ?_)
  refine lv_iconst (v := 0) hx hb dX1_init_39 (by decide) ?_
  refine lv_istore_n (lv' := [(1, .int (nI 0)), (0, .ref a)]) hx hb dX1_init_40 rfl hl (by decide) rfl (fun ls hl => ?_)
  have loop1 : ∀ (f k : Nat) (H : Heap) (locs : List Loc) (ls : Array Slot) (ad : Nat → Nat), k ≤ 12 → 12 < k + f → ad 0 = a → va_P G.1 vwCl (zNk G ad k) H → va_D A (zNk G ad k) → va_S A s.heap H locs → lv_has ls 2 [(1, .int (nI k)), (0, .ref a)] → W p l e ({ frames := 2, cells := 14, slots := 150, locals := 64 } : Room) s m ([.ref a] : List Value).toArray below meth c H locs (2 + k) (18 + 11 * k) (MQ below (zQv G (fun H => ∃ ad : Nat → Nat, ad 0 = a ∧ va_P G.1 vwCl (zNet G ad 0 zg0 zτ0) H ∧ va_D A (zNet G ad 0 zg0 zτ0)) A) ([.ref a] : List Value).toArray s 14 150 A) (F0 m 41 ls []) := by
    intro f
    induction f with
    | zero => intro k H locs ls ad h1 h2; exact absurd h2 (by omega)
    | succ f ih =>
      intro k H locs ls ad hk hf ha hP hD hS hl
      have hl : lv_has ls 2 [(1, .int (nI k)), (0, .ref (ad 0))] := by rw [ha]; exact hl
      refine lv_iload_n hx hb dX1_init_41 rfl (lv_at hl 0 rfl) ?_
      refine lv_bipush (v := 12) hx hb dX1_init_42 (by decide) ?_
      refine lv_icmp_ge (tgt := 66) hx hb dX1_init_44 (by decide) (fun c1 => ?_) (fun c1 => ?_)
      · have c1 := (z_leI (a := 12) (b := k) (by omega) (by omega)).mp c1
        obtain rfl : k = 12 := by omega
        obtain ⟨t1, t2, t3, ⟨hT1, hT1a⟩, -, -⟩ := hE.1
        refine va_gets (v := .ref t1) hx hb hT1 hS hown (hts _ (List.mem_of_getElem? (i := 13) (by decide +kernel))) (fun _ h => h) dX1_init_66 ?_
        refine lv_iconst (v := 0) hx hb dX1_init_69 (by decide) ?_
        refine lv_aload_n hx hb dX1_init_70 rfl (lv_at hl 1 rfl) ?_
        refine va_get (D := G.1) (ci := 1) (C := RX1) (T := TX1) (N := 11) (v := .ref (ad 2)) hx hb hts in_X1_init_X1 hown hK hP 0 rfl rfl 1 (by decide) (hts _ (List.mem_of_getElem? (i := 7) (by decide +kernel))) (fun _ h => h) rfl dX1_init_71 ?_
        refine lv_iconst (v := 0) hx hb dX1_init_74 (by decide) ?_
        refine lv_bipush (v := 6) hx hb dX1_init_75 (by decide) ?_
        refine z_copyF hx hb (by rw [hml]; exact hl.1.symm) hown (hts _ (List.mem_of_getElem? (i := 14) (by decide +kernel))) (hts _ (List.mem_of_getElem? (i := 15) (by decide +kernel))) (hts _ (List.mem_of_getElem? (i := 16) (by decide +kernel))) (hts _ (List.mem_of_getElem? (i := 17) (by decide +kernel))) hK hP hD hS hT1a rfl (Nat.le_of_ble_eq_true rfl) (Nat.le_of_ble_eq_true rfl) dX1_init_77 (fun H locs hP hD hS => ?_)
        exact z_vret hx hb hr hlk hK hS ⟨ad, ha, zNk_end hP hD⟩ dX1_init_80
      · have c1 := (not_congr (z_leI (a := 12) (b := k) (by omega) (by omega))).mp c1
        refine lv_aload_n hx hb dX1_init_47 rfl (lv_at hl 1 rfl) ?_
        refine va_get (D := G.1) (ci := 1) (C := RX1) (T := TX1) (N := 11) (v := .ref (ad 1)) (ws := zNk G ad k) hx hb hts in_X1_init_X1 hown hK hP 0 rfl rfl 0 (by decide) (hts _ (List.mem_of_getElem? (i := 5) (by decide +kernel))) (fun _ h => h) rfl dX1_init_48 ?_
        refine lv_iload_n hx hb dX1_init_51 rfl (lv_at hl 0 rfl) ?_
        refine va_new (ci := 3) (C := RX3) (T := TX3) (N := 11) (fs := zO3) hx hb hts in_X1_init_X3 tyX3 tyX3_ok hown (hts _ (List.mem_of_getElem? (i := 4) (by decide +kernel))) (hts _ (List.mem_of_getElem? (i := 11) (by decide +kernel))) (hts _ (List.mem_of_getElem? (i := 12) (by decide +kernel))) hK hP hD hS hA rfl (by decide) (by show 2 + k + 1 ≤ 14; omega) (by show 18 + 11 * k + 11 ≤ 150; omega) dX1_init_52 (fun q H hP hD hS => ?_)
        refine lv_dup hx hb dX1_init_55 rfl ?_
        refine z_nic (As := []) (P2 := va_P G.1 vwCl (zNk G ad k ++ [(q, .inr (3, zO3))])) S (k_X3_init l G A _ q) ⟨va_cnB 0 hts gX1_init_X3_init_n31 rfl rfl rfl hE.2.2.2 (hts _ (List.mem_of_getElem? (i := 12) (by decide +kernel))) (by decide +kernel) ⟨Nat.le_of_ble_eq_true rfl, Nat.le_of_ble_eq_true rfl⟩, rfl, hts _ (List.mem_of_getElem? (i := 18) (by decide +kernel))⟩ (z_preP hP hK) hS (fun _ h => h) hl.1 rfl rfl (Nat.le_of_ble_eq_true rfl) dX1_init_56 ⟨by show 2 + k + 1 ≤ 14; omega, by show 18 + 11 * k + 11 ≤ 150; omega⟩ (fun H locs hP hS _ => ?_)
        refine va_astq (r := (RX3, TX3, 11)) hx hb hK hP hD hS 1 0 (3 + k) 3 (cA := G.2.1) (n := 12) (f := fun i => if i < k then some (ad (3 + i)) else none) (v := q) (vs := zO3) rfl rfl (by rw [List.getElem?_append_right (by rw [zNk_len]; omega), zNk_len, Nat.sub_self]; rfl) rfl (vp_in_nI (by omega) (by omega)) dX1_init_59 (fun H locs hP hD hS => ?_)
        refine lv_iinc (v := nI (k + 1)) (lv' := [(1, .int (nI (k + 1))), (0, .ref (ad 0))]) hx hb dX1_init_60 hl (k := 0) rfl (nI_1 _) (by decide) rfl (fun ls hl => ?_)
        refine lv_goto (tgt := 41) hx hb dX1_init_63 (by decide) ?_
        rw [nI_clamp (by omega)] at hP hD
        have eW := zNk_s G (va_up ad (3 + k) q) k
        rw [zNk_up, va_up_self, va_up_ne _ _ (by omega)] at eW
        have eF : (fun i => if i < k then some (va_up ad (3 + k) q (3 + i)) else none) = fun i => if i < k then some (ad (3 + i)) else none := by
          funext i
          by_cases h : i < k
          · rw [if_pos h, if_pos h, va_up_ne _ _ (by omega)]
          · rw [if_neg h, if_neg h]
        rw [eF] at eW
        have hI := ih (k + 1) H locs ls (va_up ad (3 + k) q) (by omega) (by omega) ((va_up_ne _ _ (by omega)).trans ha) (by rw [← eW]; exact hP) (by rw [← eW]; exact hD) hS (by rw [← ha]; exact hl)
        rw [show 18 + 11 * (k + 1) = 18 + 11 * k + 11 by omega] at hI
        exact hI
  exact loop1 13 0 _ _ _ (fun i => if i = 0 then a else if i = 1 then q1 else q2) (by omega) (by omega) rfl hP hD hS (lv_sub hl [0, 1] rfl)
