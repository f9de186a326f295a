/-! ===== the law, from its entry ===== -/
def zS0 : zSg := ((0, zg0, zτ0), 0, fun _ => (0, zg0, zτ0))
theorem zS0_ok : zOk zS0 := ⟨⟨by decide, by decide, by decide, by decide⟩, Nat.zero_le 6, fun i hi => absurd hi (Nat.not_lt_zero i)⟩
theorem zS0_CP {G : zG} {ad : Nat → Nat} {na : Nat → Nat → Nat} {ma : Nat → Nat} {H : Heap} (h : zNA G ad 0 12 zg0 (zRest G ad na ma (fun i => i + 2) 0 (fun _ => 0) (fun _ => (0, zg0, zτ0))) zτ0 H) : zCP G ad na ma zS0 H := by
  refine ⟨fun i => i + 2, fun _ => (0, zg0, zτ0), 0, zg0, zτ0, fun _ => 0, ⟨fun i hi => ?_, fun i j _ _ q => ?_⟩, ⟨rfl, fun _ _ _ => rfl, fun _ _ _ => rfl, fun _ _ _ _ => rfl⟩, fun i hi => absurd hi (Nat.not_lt_zero i), fun j _ _ => Nat.zero_le 12, h⟩
  · show 2 ≤ i + 2 ∧ i + 2 < 8
    omega
  · have q : i + 2 = j + 2 := q
    omega
/-- the class's cells are listed -/
theorem zAll_in {G : zG} {ad : Nat → Nat} {na : Nat → Nat → Nat} {ma π : Nat → Nat} {dep : Nat} {fl : Nat → Int32} {T : Nat → zS3} {n : Nat} {g : Nat → Int32} {τ : zT} {q : Nat} (h : zAll ad na ma q) : ∃ (k : Nat) (x : Nat × va_E), (zNet G ad n g τ ++ zRest G ad na ma π dep fl T)[k]? = some x ∧ x.1 = q := by
  rcases h with ⟨c, hc, rfl⟩ | ⟨i, hi, rfl⟩ | ⟨j, c, h1, h10, hc, rfl⟩
  · exact ⟨c, _, zNet_c _ hc, zNc_ad _ _ _ hc⟩
  · have cs : i = 0 ∨ i = 1 ∨ i = 2 ∨ i = 3 ∨ i = 4 ∨ i = 5 ∨ i = 6 := by omega
    have key : ∃ x : Nat × va_E, (zMis G ad na ma π dep fl)[i]? = some x ∧ x.1 = ma i := by
      rcases cs with rfl | rfl | rfl | rfl | rfl | rfl | rfl <;> exact ⟨_, rfl, rfl⟩
    obtain ⟨x, h1, h2⟩ := key
    exact ⟨15 + i, x, (zRest_at _ rfl hi).trans h1, h2⟩
  · refine ⟨15 + (7 + (15 * (j - 1) + c)), _, ?_, zNc_ad G (na j) (T j) hc⟩
    rw [zNet_X]
    exact zRest_j h1 h10 hc
theorem zNew0 (N : Nat) (cA : ClassId) : vp_cell cA (N, .inl (fun _ => 0)) = arrV cA N (fun _ => defaultValue .int) := rfl
set_option maxHeartbeats 4000000 in
set_option maxRecDepth 100000 in
/-- YOUR PART: from the entry, for every script of at most 260 ints, the law comes to its end with true -/
theorem whole_start {p : Program} {e : Env} {s : State} {m : MethodId} {below : List Frame} {meth : Method} {c : Code} (l : Launch) (hflags : l.flags = flags0) {b L : Nat} {xs : Nat → Int32} (hL : L ≤ 260) (C0 : lw_At p s m meth c b L xs) : W p l e room_1 s m #[Value.ref b] below meth c s.heap [] 0 0 (lw_Z below #[Value.ref b] s) (entryFrame m ([Value.ref b] : List Value).toArray 15) := by
  obtain ⟨hx, hb, hr, hml, hown, hts, hX, hbl, hlocks, hgv⟩ := id C0
  have htw : ∀ w ∈ wsL_law, w.before #[Value.ref b] s = true := fun w hw => hts w (wsL_law_in w hw)
  have hX' : CallFix p m c cL_law 15 s #[Value.ref b] wsL_law RL := ⟨hx, hb, hml, hown, htw⟩
  obtain ⟨G, hK⟩ := zK_start hts
  have hE := zEn_start hts hgv
  have hA : ∀ q : Nat, s.heap.size ≤ q → zLa s q := fun _ h => h
  have hS : va_S (zLa s) s.heap s.heap [] := va_S.rf
  have hP : va_P G.1 vwCl [] s.heap := fun k q h => by cases h
  have hD : va_D (zLa s) [] := ⟨fun i j p q h => (by cases h), fun k q h => (by cases h)⟩
  have hl := lv_entry ([.ref b]) (n := 15) (Nat.le_of_ble_eq_true rfl)
  rw [lg_entry_eq]
  generalize (lg_sl ([.ref b]) ++ List.replicate (15 - (lg_sl ([.ref b])).length) Slot.unset).toArray = ls at hl ⊢
  have hl : lv_has ls 15 [(0, .ref b)] := hl
  refine va_new (ci := 4) (fs := [.null, .null, .null, .null, .null, .null, .null]) (C := RX4) (T := TX4) (N := 7) hx hb hts inX4 tyX4 tyX4_ok hown (hts (.classLink RL 19 RX4) (zTx (i := 7) (by decide +kernel))) (hts (.instantiable RX4 7) (zTx (i := 8) (by decide +kernel))) (hts (.initialized RX4) (zTx (i := 1) (by decide +kernel))) hK hP hD hS hA rfl (by decide) (Nat.le_of_ble_eq_true rfl) (Nat.le_of_ble_eq_true rfl) dL_law_0 (fun a H hP hD hS => ?_)
  have hP : va_P G.1 vwCl [(a, .inr (4, [.null, .null, .null, .null, .null, .null, .null]))] H := hP
  have hD : va_D (zLa s) [((a, .inr (4, [.null, .null, .null, .null, .null, .null, .null])) : Nat × va_E)] := hD
  have haH : a < H.size := (hP 0 _ rfl).lt
  have hA2 : ∀ q, zFr a H.size q → zLa s q := fun q hq => hq.elim (fun h => h ▸ hD.2 0 _ rfl) (fun h => Nat.le_trans hS.1 h)
  refine lv_dup hx hb dL_law_3 rfl ?_
  refine z_ic (As := []) (b := a) (rest := [.ref a]) hX' (k_X4_init l G a H.size) (cwI 0 htw gL_law_X4_init rfl rfl rfl (hts (.initialized RX4) (zTx (i := 1) (by decide +kernel))) (htw (.methodLink RL 54 yX4_init) (by decide +kernel)) (htw (.instanceMethod yX4_init) (by decide +kernel)) rfl (by decide +kernel) ⟨Nat.le_of_ble_eq_true rfl, Nat.le_of_ble_eq_true rfl⟩) (z_preC (A := zFr a H.size) (P := fun H' => H'.size = H.size ∧ a < H.size ∧ va_P G.1 vwCl [(a, .inr (4, [.null, .null, .null, .null, .null, .null, .null]))] H') ⟨rfl, haH, hP⟩ hK hE hS hA2) hS hA2 hl.1 rfl rfl (Nat.le_of_ble_eq_true rfl) dL_law_4 ⟨Nat.le_of_ble_eq_true rfl, Nat.le_of_ble_eq_true rfl⟩ (fun H1 locs1 hP1 hS1 hF1 => ?_)
  obtain ⟨ad, bd, p1, p2, h, b2, s2, f, nb, c0, c1, hW, hWD⟩ := hP1
  obtain ⟨hd, hB, hin⟩ := zW4_end hW hWD
  have hma : zMa a p1 p2 h b2 s2 f 0 = a := rfl
  generalize zMa a p1 p2 h b2 s2 f = ma at hd hB hin hma
  generalize zNa bd nb c0 c1 = na at hd hB hin
  have hN := hB.toN
  obtain ⟨τ2, hag, hP2⟩ := hN
  have hD2 : va_D (zLa s) (zNet G ad 0 zg0 τ2 ++ zRest G ad na ma (fun i => i + 2) 0 (fun _ => 0) (fun _ => (0, zg0, zτ0))) := ⟨(zAp_top (G := G) hd _ _ _ _ _ _ _).1, fun k q hk => hA2 _ (hin _ ((zAp_top (G := G) hd _ _ _ _ _ _ _).2 k q hk))⟩
  refine lv_astore_n (lv' := [(1, .ref a), (0, .ref b)]) hx hb dL_law_7 rfl hl (by decide) rfl (fun ls hl => ?_)
  refine lv_bipush (v := 60) hx hb dL_law_8 (by decide) ?_
  refine va_newa (atype := .int) (ty := .int) (N' := 60) (a0 := (60, .inl (fun _ => 0))) hx hb (hts (.arrayClass .int) (zTx (i := 80) (by decide +kernel))) rfl hK hP2 hD2 hS1 hA (fun cA => zNew0 60 cA) (by decide) (by decide) (Nat.le_of_ble_eq_true rfl) (Nat.le_of_ble_eq_true rfl) (Nat.le_of_ble_eq_true rfl) dL_law_10 (fun mm cA H2 hK2 hP3 hD3 hS3 => ?_)
  obtain rfl : cA = G.2.2.1 := zCA_i (zK_of hK2) (hK.2 1 _ rfl).2
  generalize hws : zNet G ad 0 zg0 τ2 ++ zRest G ad na ma (fun i => i + 2) 0 (fun _ => 0) (fun _ => (0, zg0, zτ0)) = ws at hP3 hD3
  have hP4 : va_P G.1 vwCl ws H2 := fun k q hk => hP3 k q (by rw [List.getElem?_append_left (List.getElem?_eq_some_iff.mp hk).1]; exact hk)
  have hnew : (ws ++ [((mm, .inl (G.2.2.1, 60, .inl (fun _ => 0))) : Nat × va_E)])[ws.length]? = some (mm, .inl (G.2.2.1, 60, .inl (fun _ => 0))) := by
    rw [List.getElem?_append_right (Nat.le_refl _), Nat.sub_self]
    rfl
  have hmm : ¬ zAll ad na ma mm := by
    intro hq
    obtain ⟨k, x, hk, ex⟩ := zAll_in (G := G) (π := fun i => i + 2) (dep := 0) (fl := fun _ => 0) (T := fun _ => (0, zg0, zτ0)) (n := 0) (g := zg0) (τ := τ2) hq
    rw [hws] at hk
    have hkl := (List.getElem?_eq_some_iff.mp hk).1
    have := hD3.1 k ws.length x _ (by rw [List.getElem?_append_left hkl]; exact hk) hnew ex
    omega
  have hW2 : zLW G ad na ma mm zS0 (fun _ => 0) H2 := ⟨zS0_CP ⟨τ2, hag, hws ▸ hP4⟩, hP3 _ _ hnew⟩
  have Fx : zFx G ad na ma mm s := ⟨hK, hd, hmm, fun q hq => hq.elim (fun z => hA2 q (hin q z)) (fun z => z ▸ hD3.2 _ _ hnew), hE.1⟩
  refine lv_astore_n (lv' := [(2, .ref mm), (1, .ref a), (0, .ref b)]) hx hb dL_law_12 rfl hl (by decide) rfl (fun ls hl => ?_)
  refine W.widen (k := 600000) (n := 7302250) (Nat.le_of_ble_eq_true rfl) (Nat.le_of_ble_eq_true rfl) ?_
  exact zGo hL C0 Fx zS0_ok rfl hW2 hS3 (by rw [hma]; exact lv_sub hl [2, 1, 0] rfl)
