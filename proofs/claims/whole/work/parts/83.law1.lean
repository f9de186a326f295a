/-! ===== one arm of the law: the class's call, the reference's call, the same answer ===== -/
section ZARM
variable {p : Program} {l : Launch} {e : Env} {s : State} {m : MethodId} {below : List Frame} {meth : Method} {c : Code} {Q : State → Prop} {b L : Nat} {xs : Nat → Int32} {G : zG} {ad : Nat → Nat} {na : Nat → Nat → Nat} {ma am : Nat → Nat} {Ar : Nat → Prop} {S S2 : zSg} {H : Heap} {locs : List Loc} {cells slots : Nat} {ls : Array Slot} {r : Int32} {As : List Value} {pc i : Nat} {rest : List Value}
/-- the script's int i + j -/
theorem zLd (C0 : lw_At p s m meth c b L xs) (hL : L ≤ 2048) (hi : i + 4 ≤ L) {lv : List (Nat × Value)} (hl : lv_has ls 4 ((0, .ref b) :: (3, .int (nI i)) :: lv)) (j : Nat) {n : Int} (hj : j < 4) (hn : Int32.ofInt n = nI j) (hS : va_S (zLa s) s.heap H locs) (d0 : decode cL_law pc = .ok (.aload_n 0, 1)) (d1 : decode cL_law (pc + 1) = .ok (.iload_n 3, 1)) (d2 : decode cL_law (pc + 2) = .ok (.iconst n, 1)) (d3 : decode cL_law (pc + 3) = .ok (.iadd, 1)) (d4 : decode cL_law (pc + 4) = .ok (.iaload, 1))
    (kk : W p l e room_1 s m #[Value.ref b] below meth c H locs cells slots Q (F0 m (pc + 5) ls (.int (xs (i + j)) :: rest))) : W p l e room_1 s m #[Value.ref b] below meth c H locs cells slots Q (F0 m pc ls rest) := by
  obtain ⟨hx, hb, hr, hml, hown, hts, hX, hbl, hlocks, hgv⟩ := C0
  have hbA : ¬ zLa s b := Nat.not_le.mpr hbl
  refine lv_aload_n hx hb d0 rfl (lv_at hl 0 rfl) ?_
  refine lv_iload_n hx hb d1 rfl (lv_at hl 1 rfl) ?_
  refine lv_iconst (v := nI j) hx hb d2 hn ?_
  refine lv_iadd hx hb d3 ?_
  rw [nI_add]
  refine va_sld hx hb hX hbl hbA hS (vp_in_nI (by omega) (by omega)) d4 ?_
  rw [nI_clamp (by omega)]
  exact kk
theorem zArm (C0 : lw_At p s m meth c b L xs) (F : zFx G ad na ma am Ar s) {lv : List (Nat × Value)} (hl : lv_has ls 4 ((0, .ref b) :: (3, .int (nI i)) :: (1, .ref (ma 0)) :: (2, .ref (am 0)) :: lv)) {y4 y5 : MethodName} {ws4 ws5 : List Cond} {fr4 lo4 fr5 lo5 maxL4 maxL5 : Nat} {by4 by5 : ByteArray} {ret4 ret5 : Option FieldType} (p0 p1 p2 : Nat) {i4 i5 : Nat} {off : Int}
    (m4 : zMi l G (zAll ad na ma) y4 ws4 fr4 lo4 (.ref (ma 0) :: As) (zCP G ad na ma S) r (zCP G ad na ma S2)) (m5 : zMi l G Ar y5 ws5 fr5 lo5 (.ref (am 0) :: As) (zRP G am S) r (zRP G am S2))
    (c4 : CallW room_1 s #[Value.ref b] RL RX4 i4 y4 by4 maxL4 ret4 ws4 ({ frames := fr4, cells := 0, slots := 0, locals := lo4 } : Room) 0 0 As.length) (c5 : CallW room_1 s #[Value.ref b] RL RX5 i5 y5 by5 maxL5 ret5 ws5 ({ frames := fr5, cells := 0, slots := 0, locals := lo5 } : Room) 0 0 As.length)
    (d1 : decode cL_law p0 = .ok (.aload_n 1, 1)) (l1 : ∀ (H : Heap) (locs : List Loc) (rest : List Value), va_S (zLa s) s.heap H locs → W p l e room_1 s m #[Value.ref b] below meth c H locs 600000 7302250 Q (F0 m p1 ls (As.reverse ++ rest)) → W p l e room_1 s m #[Value.ref b] below meth c H locs 600000 7302250 Q (F0 m (p0 + 1) ls rest))
    (d2 : decode cL_law p1 = .ok (.invokevirtual i4, 3)) (d3 : decode cL_law (p1 + 3) = .ok (.aload_n 2, 1)) (l2 : ∀ (H : Heap) (locs : List Loc) (rest : List Value), va_S (zLa s) s.heap H locs → W p l e room_1 s m #[Value.ref b] below meth c H locs 600000 7302250 Q (F0 m p2 ls (As.reverse ++ rest)) → W p l e room_1 s m #[Value.ref b] below meth c H locs 600000 7302250 Q (F0 m (p1 + 4) ls rest))
    (d4 : decode cL_law p2 = .ok (.invokevirtual i5, 3)) (d5 : decode cL_law (p2 + 3) = .ok (.if_icmp .eq off, 3)) (ht : ((p2 + 3 : Nat) : Int) + off = ((757 : Nat) : Int))
    (hC : zCP G ad na ma S H) (hR : zRP G am S H) (hS : va_S (zLa s) s.heap H locs)
    (kk : ∀ (H : Heap) (locs : List Loc), zCP G ad na ma S2 H → zRP G am S2 H → va_S (zLa s) s.heap H locs → W p l e room_1 s m #[Value.ref b] below meth c H locs 600000 7302250 Q (F0 m 757 ls [])) :
    W p l e room_1 s m #[Value.ref b] below meth c H locs 600000 7302250 Q (F0 m p0 ls []) := by
  obtain ⟨hx, hb, hr, hml, hown, hts, hX, hbl, hlocks, hgv⟩ := C0
  obtain ⟨hK, hd, hA, f1, f2, f3, hT⟩ := F
  have hX' : CallFix p m c cL_law 4 s #[Value.ref b] wsL_law RL := ⟨hx, hb, hml, hown, fun w hw => hts w (wsL_law_in w hw)⟩
  refine lv_aload_n hx hb d1 rfl (lv_at hl 2 rfl) ?_
  refine l1 H locs _ hS ?_
  refine z_vi (As := As) (rest := []) hX' m4 c4 (zCP.rcv hK hC) hC hK hS (fun q _ h => f1 q h) f1 hl.1 rfl rfl (Nat.le_of_ble_eq_true rfl) d2 ⟨Nat.le_of_ble_eq_true rfl, Nat.le_of_ble_eq_true rfl⟩ (fun H1 locs1 hC1 hS1 hF => ?_)
  have hR1 := zRP.kept hA hR (fun q hq ha => hF.2 q hq (fun z => f3 q z ha))
  refine lv_aload_n hx hb d3 rfl (lv_at hl 3 rfl) ?_
  refine l2 H1 locs1 _ hS1 ?_
  refine z_vi (As := As) (rest := [.int r]) hX' m5 c5 (zRP.rcv hK hR1) hR1 hK hS1 (fun q _ h => f2 q h) f2 hl.1 rfl rfl (Nat.le_of_ble_eq_true rfl) d4 ⟨Nat.le_of_ble_eq_true rfl, Nat.le_of_ble_eq_true rfl⟩ (fun H2 locs2 hR2 hS2 hF2 => ?_)
  have hC2 := zCP.kept hd hC1 (fun q hq ha => hF2.2 q hq (fun z => f3 q ha z))
  exact lv_icmp_eq (tgt := 757) hx hb d5 ht (fun _ => kk H2 locs2 hC2 hR2 hS2) (fun q => absurd rfl q)
/-- a call that also wants the tables -/
theorem z_viT {R : Room} {args : Array Value} {nL : Nat} {cc : ByteArray} {A A0 : Nat → Prop} {P P2 : Heap → Prop} {Ts ws : List Cond} {own C : String} {y : MethodName} {bytes : ByteArray} {maxL index n : Nat} {ret : Option FieldType} {fr lo : Nat} {st0 : List Value} (X : CallFix p m c cc nL s args Ts own) (hM : zMiT l G A y ws fr lo (.ref b :: As) P r P2) (cw : CallW R s args own C index y bytes maxL ret ws ({ frames := fr, cells := 0, slots := 0, locals := lo } : Room) 0 0 n)
    (hrec : ∃ cell : Cell, H[b]? = some cell ∧ cell.vm.isStatics = false ∧ s.vm.findClass C = some cell.cls) (hP : P H) (hK : zK G s) (hT : zTabs A0 s s.heap) (hS : va_S A0 s.heap H locs) (hA2 : ∀ q, A q → A0 q) (hsz : ls.size = nL) (hn : As.length = n) (hst : st0 = As.reverse ++ .ref b :: rest) (hrm : (rest.map fun v => v.category).sum ≤ 8) (hdg : decode cc pc = .ok (.invokevirtual index, 3)) (hf : cells ≤ R.cells ∧ slots ≤ R.slots)
    (kk : ∀ (H1 : Heap) (locs1 : List Loc), P2 H1 → va_S A0 s.heap H1 locs1 → (H.size ≤ H1.size ∧ ∀ q : Nat, q < H.size → ¬ A q → H1[q]? = H[q]?) → W p l e R s m args below meth c H1 locs1 cells slots Q (F0 m (pc + 3) ls (.int r :: rest))) : W p l e R s m args below meth c H locs cells slots Q (F0 m pc ls st0) := by
  refine va_calli (va_runV X hM cw ⟨z_blindT, hrec, fun U hU hW => ⟨⟨rfl, by rw [hU]; exact hP, va_K.moved hW.alike hK⟩, by rw [hU]; exact ((hT.kept hS.2.1).moved hW.alike).narrow hA2⟩⟩ rfl hn hsz hst (lv_room hrm) hdg hf) hS (fun q _ h => hA2 q h) hA2 (fun r1 u t H1 locs1 ht hvm hw hB hz hk hS1 => ?_)
  cases hw
  exact kk H1 locs1 (ht ▸ hB.1) hS1 ⟨hz, hk⟩
theorem zArmT (C0 : lw_At p s m meth c b L xs) (F : zFx G ad na ma am Ar s) {lv : List (Nat × Value)} (hl : lv_has ls 4 ((0, .ref b) :: (3, .int (nI i)) :: (1, .ref (ma 0)) :: (2, .ref (am 0)) :: lv)) {y4 y5 : MethodName} {ws4 ws5 : List Cond} {fr4 lo4 fr5 lo5 maxL4 maxL5 : Nat} {by4 by5 : ByteArray} {ret4 ret5 : Option FieldType} (p0 p1 p2 : Nat) {i4 i5 : Nat} {off : Int}
    (m4 : zMiT l G (zAll ad na ma) y4 ws4 fr4 lo4 (.ref (ma 0) :: As) (zCP G ad na ma S) r (zCP G ad na ma S2)) (m5 : zMi l G Ar y5 ws5 fr5 lo5 (.ref (am 0) :: As) (zRP G am S) r (zRP G am S2))
    (c4 : CallW room_1 s #[Value.ref b] RL RX4 i4 y4 by4 maxL4 ret4 ws4 ({ frames := fr4, cells := 0, slots := 0, locals := lo4 } : Room) 0 0 As.length) (c5 : CallW room_1 s #[Value.ref b] RL RX5 i5 y5 by5 maxL5 ret5 ws5 ({ frames := fr5, cells := 0, slots := 0, locals := lo5 } : Room) 0 0 As.length)
    (d1 : decode cL_law p0 = .ok (.aload_n 1, 1)) (l1 : ∀ (H : Heap) (locs : List Loc) (rest : List Value), va_S (zLa s) s.heap H locs → W p l e room_1 s m #[Value.ref b] below meth c H locs 600000 7302250 Q (F0 m p1 ls (As.reverse ++ rest)) → W p l e room_1 s m #[Value.ref b] below meth c H locs 600000 7302250 Q (F0 m (p0 + 1) ls rest))
    (d2 : decode cL_law p1 = .ok (.invokevirtual i4, 3)) (d3 : decode cL_law (p1 + 3) = .ok (.aload_n 2, 1)) (l2 : ∀ (H : Heap) (locs : List Loc) (rest : List Value), va_S (zLa s) s.heap H locs → W p l e room_1 s m #[Value.ref b] below meth c H locs 600000 7302250 Q (F0 m p2 ls (As.reverse ++ rest)) → W p l e room_1 s m #[Value.ref b] below meth c H locs 600000 7302250 Q (F0 m (p1 + 4) ls rest))
    (d4 : decode cL_law p2 = .ok (.invokevirtual i5, 3)) (d5 : decode cL_law (p2 + 3) = .ok (.if_icmp .eq off, 3)) (ht : ((p2 + 3 : Nat) : Int) + off = ((757 : Nat) : Int))
    (hC : zCP G ad na ma S H) (hR : zRP G am S H) (hS : va_S (zLa s) s.heap H locs)
    (kk : ∀ (H : Heap) (locs : List Loc), zCP G ad na ma S2 H → zRP G am S2 H → va_S (zLa s) s.heap H locs → W p l e room_1 s m #[Value.ref b] below meth c H locs 600000 7302250 Q (F0 m 757 ls [])) :
    W p l e room_1 s m #[Value.ref b] below meth c H locs 600000 7302250 Q (F0 m p0 ls []) := by
  obtain ⟨hx, hb, hr, hml, hown, hts, hX, hbl, hlocks, hgv⟩ := C0
  obtain ⟨hK, hd, hA, f1, f2, f3, hT⟩ := F
  have hX' : CallFix p m c cL_law 4 s #[Value.ref b] wsL_law RL := ⟨hx, hb, hml, hown, fun w hw => hts w (wsL_law_in w hw)⟩
  refine lv_aload_n hx hb d1 rfl (lv_at hl 2 rfl) ?_
  refine l1 H locs _ hS ?_
  refine z_viT (As := As) (rest := []) hX' m4 c4 (zCP.rcv hK hC) hC hK hT hS f1 hl.1 rfl rfl (Nat.le_of_ble_eq_true rfl) d2 ⟨Nat.le_of_ble_eq_true rfl, Nat.le_of_ble_eq_true rfl⟩ (fun H1 locs1 hC1 hS1 hF => ?_)
  have hR1 := zRP.kept hA hR (fun q hq ha => hF.2 q hq (fun z => f3 q z ha))
  refine lv_aload_n hx hb d3 rfl (lv_at hl 3 rfl) ?_
  refine l2 H1 locs1 _ hS1 ?_
  refine z_vi (As := As) (rest := [.int r]) hX' m5 c5 (zRP.rcv hK hR1) hR1 hK hS1 (fun q _ h => f2 q h) f2 hl.1 rfl rfl (Nat.le_of_ble_eq_true rfl) d4 ⟨Nat.le_of_ble_eq_true rfl, Nat.le_of_ble_eq_true rfl⟩ (fun H2 locs2 hR2 hS2 hF2 => ?_)
  have hC2 := zCP.kept hd hC1 (fun q hq ha => hF2.2 q hq (fun z => f3 q ha z))
  exact lv_icmp_eq (tgt := 757) hx hb d5 ht (fun _ => kk H2 locs2 hC2 hR2 hS2) (fun q => absurd rfl q)
end ZARM
