/-- a new object's world beside the old one -/
theorem zJoin {G : zG} {A : Nat → Prop} {ws w1 : va_W} {q : Nat} {e : va_E} {H H1 : Heap} (hP : va_P G.1 vwCl (ws ++ [(q, e)]) H) (hD : va_D A (ws ++ [(q, e)])) (hk : ∀ r, r < H.size → ¬ zFr q H.size r → H1[r]? = H[r]?) (hP1 : va_P G.1 vwCl w1 H1) (hD1 : va_D (zFr q H.size) w1) (hA : ∀ r, H.size ≤ r → A r) : va_P G.1 vwCl (ws ++ w1) H1 ∧ va_D A (ws ++ w1) := by
  have atq : (ws ++ [((q, e) : Nat × va_E)])[ws.length]? = some (q, e) := by simp
  have hw : ∀ (k : Nat) (x : Nat × va_E), ws[k]? = some x → (ws ++ [((q, e) : Nat × va_E)])[k]? = some x := fun k x hx => by
    rw [List.getElem?_append_left (List.getElem?_eq_some_iff.mp hx).1]
    exact hx
  have apart : ∀ (k : Nat) (x : Nat × va_E), ws[k]? = some x → x.1 < H.size ∧ ¬ zFr q H.size x.1 := fun k x hx => by
    have hl := (hP k x (hw k x hx)).lt
    refine ⟨hl, fun h => ?_⟩
    rcases h with h | h
    · have := hD.1 k ws.length x (q, e) (hw k x hx) atq h
      have h2 := (List.getElem?_eq_some_iff.mp hx).1
      omega
    · omega
  refine ⟨va_P.app (fun k x hx => ?_) hP1, va_D.app ⟨fun i j x y hi hj => hD.1 i j x y (hw i x hi) (hw j y hj), fun k x hx => hD.2 k x (hw k x hx)⟩ ⟨hD1.1, fun k x hx => ?_⟩ (fun i j x y hi hj hxy => ?_)⟩
  · obtain ⟨h1, h2⟩ := apart k x hx
    exact (hP k x (hw k x hx)).kept (hk x.1 h1 h2)
  · rcases hD1.2 k x hx with h | h
    · rw [h]
      exact hD.2 _ _ atq
    · exact hA _ h
  · exact (apart i x hi).2 (hxy ▸ hD1.2 j y hj)
section ZMK
variable {p : Program} {l : Launch} {e : Env} {R : Room} {s : State} {m : MethodId} {args : Array Value} {below : List Frame} {meth : Method} {c : Code} {H : Heap} {locs : List Loc} {cells slots : Nat} {Q : State → Prop}
variable {cc : ByteArray} {pc : Nat} {ls : Array Slot} {rest : List Value} {G : zG} {A : Nat → Prop} {nL : Nat} {Ts : List Cond} {own : String} {i1 i2 : Nat} {ws : va_W}
/-- new Network() -/
theorem z_mkN (S : CallFix p m c cc nL s args Ts own) (hin : ∀ w ∈ wsX10, w ∈ Ts) (hcl : (Cond.classLink own i1 RX1).before args s = true) (hinst : (Cond.instantiable RX1 11).before args s = true) (hini : (Cond.initialized RX1).before args s = true)
    (cw : CallB R s args own i2 yX1_init cX1_init 2 none wsX1_init ({ frames := 2, cells := 14, slots := 150, locals := 64 } : Room) 14 150 0 ∧ yX1_init.name = "<init>" ∧ (Cond.instanceMethod yX1_init).before args s = true)
    (hE : zEn A s s.heap) (hA : ∀ q, s.heap.size ≤ q → A q) (hK : zK G s) (hP : va_P G.1 vwCl ws H) (hD : va_D A ws) (hS : va_S A s.heap H locs) (hsz : ls.size = nL) (hrm : ∀ q : Nat, ((Value.ref q :: rest).map fun v => v.category).sum ≤ 8)
    (d1 : decode cc pc = .ok (.new i1, 3)) (d2 : decode cc (pc + 3) = .ok (.dup, 1)) (d3 : decode cc (pc + 4) = .ok (.invokespecial i2, 3)) (hc : cells + 15 ≤ R.cells) (hs : slots + 161 ≤ R.slots)
    (kk : ∀ (H1 : Heap) (locs1 : List Loc) (ad : Nat → Nat), va_P G.1 vwCl (ws ++ zNet G ad 0 zg0 zτ0) H1 → va_D A (ws ++ zNet G ad 0 zg0 zτ0) → va_S A s.heap H1 locs1 → W p l e R s m args below meth c H1 locs1 (cells + 15) (slots + 161) Q (F0 m (pc + 7) ls (.ref (ad 0) :: rest))) : W p l e R s m args below meth c H locs cells slots Q (F0 m pc ls rest) := by
  obtain ⟨hx, hb, hml, hown, hts⟩ := id S
  refine va_new (ci := 1) (C := RX1) (T := TX1) (N := 11) (fs := zO1) hx hb hts hin tyX1 tyX1_ok hown hcl hinst hini hK hP hD hS hA rfl (by decide) (by omega) (by omega) d1 (fun q H hP hD hS => ?_)
  refine lv_dup hx hb d2 rfl ?_
  have hq : (ws ++ [((q, .inr (1, zO1)) : Nat × va_E)])[ws.length]? = some (q, .inr (1, zO1)) := by simp
  have hql : q < H.size := (hP _ _ hq).lt
  have hA2 : ∀ r, zFr q H.size r → A r := fun r h => h.elim (fun h => h ▸ hD.2 _ _ hq) (fun h => hA r (Nat.le_trans hS.1 h))
  refine z_ic (As := []) (b := q) (rest := .ref q :: rest) S (k_X1_init l G q H.size) cw (z_preC ⟨rfl, hql, fun k x hk => ?_⟩ hK hE hS hA2) hS hA2 hsz rfl rfl (hrm q) d3 ⟨by omega, by omega⟩ (fun H1 locs1 hP1 hS1 hF => ?_)
  · have h1 : k < 1 := (List.getElem?_eq_some_iff.mp hk).1
    rw [show k = 0 by omega] at hk
    cases hk
    exact hP _ _ hq
  · obtain ⟨ad, rfl, hP2, hD2⟩ := hP1
    obtain ⟨hP3, hD3⟩ := zJoin hP hD hF.2 hP2 hD2 (fun r h => hA r (Nat.le_trans hS.1 h))
    exact kk H1 locs1 ad hP3 hD3 hS1
end ZMK
theorem in_X2_init_X2 : ∀ w ∈ wsX20, w ∈ wsX2_init := by decide +kernel
set_option maxHeartbeats 4000000 in
theorem k_X2_init (l : Launch) (G : zG) (a b : Nat) : zMv l G (fun q => q = a) yX2_init wsX2_init 1 13 [.ref a, .ref b] (va_P G.1 vwCl [(a, .inr (2, [.null]))]) (va_P G.1 vwCl [(a, .inr (2, [.ref b]))]) := by
  refine z_met (cc := cX2_init) (maxL := 2) (ret := none) (by decide) rfl (Nat.le_of_ble_eq_true rfl) ?_
  intro p e s m below meth c ls S hr hlk hnm hP hK hl
  have S : CallFix p m c cX2_init 2 s _ wsX2_init RX2 := S
  obtain ⟨hx, hb, hml, hown, hts⟩ := id S
  have hS : va_S (fun q => q = a) s.heap s.heap [] := va_S.rf
  have hD : va_D (fun q => q = a) [((a, .inr (2, [.null])) : Nat × va_E)] := ⟨fun i j p q hi hj _ => by
    have h1 : i < 1 := (List.getElem?_eq_some_iff.mp hi).1
    have h2 : j < 1 := (List.getElem?_eq_some_iff.mp hj).1
    omega, fun k q hk => by
    have h1 : k < 1 := (List.getElem?_eq_some_iff.mp hk).1
    rw [show k = 0 by omega] at hk
    cases hk
    rfl⟩
  have hl : lv_has ls 2 [(0, .ref a), (1, .ref b)] := hl
  refine lv_aload_n hx hb dX2_init_0 rfl (lv_at hl 0 rfl) ?_
  refine W.objInit hx hb hown (hts _ (List.mem_of_getElem? (i := 1) (by decide +kernel))) (hts _ (List.mem_of_getElem? (i := 2) (by decide +kernel))) (hts _ (List.mem_of_getElem? (i := 3) (by decide +kernel))) rfl (by rw [hml]; exact hl.1) rfl dX2_init_1 (Nat.le_of_ble_eq_true rfl) (Nat.le_of_ble_eq_true rfl) ?_
  refine W.eq (g2 := F0 m 4 ls []) rfl ?_
  refine lv_aload_n hx hb dX2_init_4 rfl (lv_at hl 0 rfl) ?_
  refine lv_aload_n hx hb dX2_init_5 rfl (lv_at hl 1 rfl) ?_
  refine va_putF (D := G.1) (ci := 2) (C := RX2) (T := TX2) (N := 1) hx hb hts in_X2_init_X2 tyX2 tyX2_ok nmX2 hown hK hP hD hS 0 (fs := [.null]) rfl rfl 0 (by decide) (hts _ (List.mem_of_getElem? (i := 4) (by decide +kernel))) (fun _ h => h) rfl hnm rfl (tyX2_ok 0 (by decide)) rfl rfl (by decide) dX2_init_6 (fun H locs hP hD hS => ?_)
  exact z_vret hx hb hr hlk hK hS hP dX2_init_9
/-- a history that is being made: k networks -/
def zHk (G : zG) (a b : Nat) (na : Nat → Nat → Nat) (k : Nat) : va_W := (a, .inr (0, [.ref b, .int 0])) :: (b, .inl (G.2.2.2.1, 6, .inr (.inr (.inr (.inr (fun i => if i < k then some (na i 0) else none)))))) :: (List.range k).flatMap (fun j => zNet G (na j) 0 zg0 zτ0)
theorem zHk_s (G : zG) (a b : Nat) (na : Nat → Nat → Nat) (k : Nat) (ad : Nat → Nat) : (zHk G a b na k ++ zNet G ad 0 zg0 zτ0).set 1 (b, .inl (G.2.2.2.1, 6, .inr (.inr (.inr (.inr (va_up (fun i => if i < k then some (na i 0) else none) k (some (ad 0)))))))) = zHk G a b (va_up na k ad) (k + 1) := by
  unfold zHk
  rw [List.range_succ, List.flatMap_append]
  have e : va_up (fun i => if i < k then some (na i 0) else none) k (some (ad 0)) = fun i => if i < k + 1 then some (va_up na k ad i 0) else none := by
    funext i
    by_cases h : i = k
    · subst h
      rw [va_up_self, if_pos (by omega), va_up_self]
    · rw [va_up_ne _ _ h, va_up_ne _ _ h]
      by_cases h2 : i < k
      · rw [if_pos h2, if_pos (by omega)]
      · rw [if_neg h2, if_neg (by omega)]
  have e2 : (List.range k).flatMap (fun j => zNet G (va_up na k ad j) 0 zg0 zτ0) = (List.range k).flatMap (fun j => zNet G (na j) 0 zg0 zτ0) := by
    rw [List.flatMap_def, List.flatMap_def]
    congr 1
    apply List.map_congr_left
    intro j hj
    rw [va_up_ne _ _ (by have := List.mem_range.mp hj; omega)]
  rw [e, e2]
  simp [va_up_self]
theorem in_X0_init_X0 : ∀ w ∈ wsX00, w ∈ wsX0_init := by decide +kernel
theorem in_X0_init_X1 : ∀ w ∈ wsX10, w ∈ wsX0_init := by decide +kernel
set_option maxHeartbeats 4000000 in
theorem k_X0_init (l : Launch) (G : zG) (a sz : Nat) : zMc l G (zFr a sz) yX0_init wsX0_init 3 90 91 972 [.ref a] (fun H => H.size = sz ∧ a < sz ∧ va_P G.1 vwCl [(a, .inr (0, [.null, .int 0]))] H) (fun H => ∃ (b : Nat) (na : Nat → Nat → Nat), va_P G.1 vwCl (zHk G a b na 6) H ∧ va_D (zFr a sz) (zHk G a b na 6)) := by
  refine z_metC (cc := cX0_init) (maxL := 2) (ret := none) (by decide) rfl (Nat.le_of_ble_eq_true rfl) ?_
  intro p e s m below meth c ls S hr hlk hnm hP hK hE hl
  have S : CallFix p m c cX0_init 2 s _ wsX0_init RX0 := S
  obtain ⟨hx, hb, hml, hown, hts⟩ := id S
  obtain ⟨rfl, hasz, hP⟩ := hP
  have hA : ∀ q : Nat, s.heap.size ≤ q → zFr a s.heap.size q := fun q h => Or.inr h
  have hD : va_D (zFr a s.heap.size) [((a, .inr (0, [.null, .int 0])) : Nat × va_E)] := ⟨fun i j p q hi hj _ => by
    have h1 : i < 1 := (List.getElem?_eq_some_iff.mp hi).1
    have h2 : j < 1 := (List.getElem?_eq_some_iff.mp hj).1
    omega, fun k q hk => by
    have h1 : k < 1 := (List.getElem?_eq_some_iff.mp hk).1
    rw [show k = 0 by omega] at hk
    cases hk
    exact Or.inl rfl⟩
  generalize hAe : zFr a s.heap.size = A at hA hD hE ⊢
  have hS : va_S A s.heap s.heap [] := va_S.rf
  have hl : lv_has ls 2 [(0, .ref a)] := hl
  refine lv_aload_n hx hb dX0_init_0 rfl (lv_at hl 0 rfl) ?_
  refine W.objInit hx hb hown (hts _ (List.mem_of_getElem? (i := 1) (by decide +kernel))) (hts _ (List.mem_of_getElem? (i := 2) (by decide +kernel))) (hts _ (List.mem_of_getElem? (i := 3) (by decide +kernel))) rfl (by rw [hml]; exact hl.1) rfl dX0_init_1 (Nat.le_of_ble_eq_true rfl) (Nat.le_of_ble_eq_true rfl) ?_
  refine W.eq (g2 := F0 m 4 ls []) rfl ?_
  refine lv_aload_n hx hb dX0_init_4 rfl (lv_at hl 0 rfl) ?_
  refine lv_bipush (v := 6) hx hb dX0_init_5 (by decide) ?_
  refine va_newq (C := RX1) (N' := 6) hx hb hown (hts _ (List.mem_of_getElem? (i := 4) (by decide +kernel))) hE.2.2.1 hK hP hD hS hA (by decide) (by decide) (Nat.le_of_ble_eq_true rfl) (Nat.le_of_ble_eq_true rfl) (Nat.le_of_ble_eq_true rfl) dX0_init_7 (fun b cA H hK2 hP hD hS => ?_)
  obtain rfl : cA = G.2.2.2.1 := zCA_o (zK_of hK2) (hK.2 2 _ rfl).2
  refine va_putF (D := G.1) (ci := 0) (C := RX0) (T := TX0) (N := 2) hx hb hts in_X0_init_X0 tyX0 tyX0_ok nmX0 hown hK hP hD hS 0 (fs := [.null, .int 0]) rfl rfl 0 (by decide) (hts _ (List.mem_of_getElem? (i := 5) (by decide +kernel))) (fun _ h => h) rfl hnm rfl (tyX0_ok 0 (by decide)) rfl rfl (by decide) dX0_init_10 (fun H locs hP hD hS => ?_)
  refine lv_iconst (v := 0) hx hb dX0_init_13 (by decide) ?_
  refine lv_istore_n (lv' := [(1, .int (nI 0)), (0, .ref a)]) hx hb dX0_init_14 rfl hl (by decide) rfl (fun ls hl => ?_)
  have loop1 : ∀ (f k : Nat) (H : Heap) (locs : List Loc) (ls : Array Slot) (na : Nat → Nat → Nat), k ≤ 6 → 6 < k + f → va_P G.1 vwCl (zHk G a b na k) H → va_D A (zHk G a b na k) → va_S A s.heap H locs → lv_has ls 2 [(1, .int (nI k)), (0, .ref a)] → W p l e ({ frames := 3, cells := 91, slots := 972, locals := 90 } : Room) s m ([.ref a] : List Value).toArray below meth c H locs (1 + 15 * k) (6 + 161 * k) (MQ below (zQv G (fun H => ∃ (b : Nat) (na : Nat → Nat → Nat), va_P G.1 vwCl (zHk G a b na 6) H ∧ va_D A (zHk G a b na 6)) A) ([.ref a] : List Value).toArray s 91 972 A) (F0 m 15 ls []) := by
    intro f
    induction f with
    | zero => intro k H locs ls na h1 h2; exact absurd h2 (by omega)
    | succ f ih =>
      intro k H locs ls na hk hf hP hD hS hl
      refine lv_iload_n hx hb dX0_init_15 rfl (lv_at hl 0 rfl) ?_
      refine lv_bipush (v := 6) hx hb dX0_init_16 (by decide) ?_
      refine lv_icmp_ge (tgt := 40) hx hb dX0_init_18 (by decide) (fun c1 => ?_) (fun c1 => ?_)
      · have c1 := (z_leI (a := 6) (b := k) (by omega) (by omega)).mp c1
        obtain rfl : k = 6 := by omega
        exact z_vret hx hb hr hlk hK hS ⟨b, na, hP, hD⟩ dX0_init_40
      · have c1 := (not_congr (z_leI (a := 6) (b := k) (by omega) (by omega))).mp c1
        refine lv_aload_n hx hb dX0_init_21 rfl (lv_at hl 1 rfl) ?_
        refine va_get (D := G.1) (ci := 0) (C := RX0) (T := TX0) (N := 2) (v := .ref b) (ws := zHk G a b na k) hx hb hts in_X0_init_X0 hown hK hP 0 rfl rfl 0 (by decide) (hts _ (List.mem_of_getElem? (i := 5) (by decide +kernel))) (fun _ h => h) rfl dX0_init_22 ?_
        refine lv_iload_n hx hb dX0_init_25 rfl (lv_at hl 0 rfl) ?_
        refine z_mkN S in_X0_init_X1 (hts _ (List.mem_of_getElem? (i := 4) (by decide +kernel))) (hts _ (List.mem_of_getElem? (i := 6) (by decide +kernel))) (hts _ (List.mem_of_getElem? (i := 7) (by decide +kernel))) (cwI 0 hts gX0_init_X1_init rfl rfl rfl (hts _ (List.mem_of_getElem? (i := 7) (by decide +kernel))) (hts _ (List.mem_of_getElem? (i := 8) (by decide +kernel))) (hts _ (List.mem_of_getElem? (i := 9) (by decide +kernel))) rfl (by decide +kernel) ⟨Nat.le_of_ble_eq_true rfl, Nat.le_of_ble_eq_true rfl⟩) hE hA hK hP hD hS hl.1 (fun _ => Nat.le_of_ble_eq_true rfl) dX0_init_26 dX0_init_29 dX0_init_30 (by show 1 + 15 * k + 15 ≤ 91; omega) (by show 6 + 161 * k + 161 ≤ 972; omega) (fun H locs ad hP hD hS => ?_)
        refine va_astq (r := (RX1, TX1, 11)) hx hb hK hP hD hS 1 2 (zHk G a b na k).length 1 (cA := G.2.2.2.1) (n := 6) (f := fun i => if i < k then some (na i 0) else none) (v := ad 0) (vs := zObj ad 0 zg0 zτ0) rfl rfl (by rw [List.getElem?_append_right (Nat.le_refl _), Nat.sub_self]; rfl) rfl (vp_in_nI (by omega) (by omega)) dX0_init_33 (fun H locs hP hD hS => ?_)
        refine lv_iinc (v := nI (k + 1)) (lv' := [(1, .int (nI (k + 1))), (0, .ref a)]) hx hb dX0_init_34 hl (k := 0) rfl (nI_1 _) (by decide) rfl (fun ls hl => ?_)
        refine lv_goto (tgt := 15) hx hb dX0_init_37 (by decide) ?_
        rw [nI_clamp (by omega)] at hP hD
        rw [zHk_s] at hP hD
        have hI := ih (k + 1) H locs ls _ (by omega) (by omega) hP hD hS hl
        rw [show 6 + 161 * (k + 1) = 6 + 161 * k + 161 by omega, show 1 + 15 * (k + 1) = 1 + 15 * k + 15 by omega] at hI
        exact hI
  exact loop1 7 0 _ _ _ (fun _ _ => 0) (by omega) (by omega) hP hD hS (lv_sub hl [0, 1] rfl)
