/-! ===== contracts under other words; rows of the class's own cells ===== -/
theorem z_lift {l : Launch} {G : zG} {A A2 : Nat → Prop} {y : MethodName} {ws : List Cond} {fr lo : Nat} {av : List Value} {r : Int32} {P' P2' : Heap → Prop} (h : ∀ H : Heap, P' H → ∃ P P2 : Heap → Prop, P H ∧ zMi l G A y ws fr lo av P r P2 ∧ ∀ H1 : Heap, H.size ≤ H1.size → (∀ q, q < H.size → ¬ A q → H1[q]? = H[q]?) → P2 H1 → P2' H1) (hA : ∀ q, A q → A2 q) : zMi l G A2 y ws fr lo av P' r P2' := by
  intro p e ha hc hk s m args below hf happ hp hk'
  obtain ⟨hav, hP, hK⟩ := hp
  obtain ⟨P, P2, h1, h2, h3⟩ := h s.heap hP
  obtain ⟨n, o, w1, w2, w3, ⟨⟨r1, u, e1, e2, hB⟩, hF⟩, L, hL, hfr⟩ := h2 p e ha hc hk s m args below hf happ ⟨hav, h1, hK⟩ hk'
  exact ⟨n, o, w1, w2, w3, ⟨⟨r1, u, e1, e2, h3 _ hF.1 hF.2 hB.1, hB.2⟩, hF.1, fun q hq hn => hF.2 q hq (fun z => hn (hA q z))⟩, L, hL, fun q hq => hA _ (hfr q hq)⟩
theorem z_liftv {l : Launch} {G : zG} {A A2 : Nat → Prop} {y : MethodName} {ws : List Cond} {fr lo : Nat} {av : List Value} {P' P2' : Heap → Prop} (h : ∀ H : Heap, P' H → ∃ P P2 : Heap → Prop, P H ∧ zMv l G A y ws fr lo av P P2 ∧ ∀ H1 : Heap, H.size ≤ H1.size → (∀ q, q < H.size → ¬ A q → H1[q]? = H[q]?) → P2 H1 → P2' H1) (hA : ∀ q, A q → A2 q) : zMv l G A2 y ws fr lo av P' P2' := by
  intro p e ha hc hk s m args below hf happ hp hk'
  obtain ⟨hav, hP, hK⟩ := hp
  obtain ⟨P, P2, h1, h2, h3⟩ := h s.heap hP
  obtain ⟨n, o, w1, w2, w3, ⟨⟨u, e1, e2, hB⟩, hF⟩, L, hL, hfr⟩ := h2 p e ha hc hk s m args below hf happ ⟨hav, h1, hK⟩ hk'
  exact ⟨n, o, w1, w2, w3, ⟨⟨u, e1, e2, h3 _ hF.1 hF.2 hB.1, hB.2⟩, hF.1, fun q hq hn => hF.2 q hq (fun z => hn (hA q z))⟩, L, hL, fun q hq => hA _ (hfr q hq)⟩
section ZTOP
variable {p : Program} {l : Launch} {e : Env} {R : Room} {s : State} {m : MethodId} {args : Array Value} {below : List Frame} {meth : Method} {c : Code} {H : Heap} {locs : List Loc} {cells slots : Nat} {Q : State → Prop}
variable {cc : ByteArray} {pc : Nat} {ls : Array Slot} {rest : List Value} {G : zG} {A : Nat → Prop} {H0 : Heap} {Ts : List Cond} {own : String} {index : Nat} {ad : Nat → Nat} {n N : Nat} {g : Nat → Int32} {τ : zT} {v : Value}
variable {na : Nat → Nat → Nat} {ma π : Nat → Nat} {dep : Nat} {fl : Nat → Int32} {T : Nat → zS3}
theorem zRest_at (X : va_W) (hX : X = zRest G ad na ma π dep fl T) {k : Nat} (hk : k < 7) : (zNet G ad n g τ ++ X)[15 + k]? = (zMis G ad na ma π dep fl)[k]? := by
  rw [zNet_X, hX]
  exact zRest_m hk
theorem zMis_p (hN : zNA G ad n N g (zRest G ad na ma π dep fl T) τ H) : va_P G.1 vwCl (zMis G ad na ma π dep fl) H := by
  obtain ⟨τ2, -, hP⟩ := hN
  intro k q hk
  refine hP (15 + k) q ?_
  rw [zNet_X, zRest_m (by simpa [zMis] using (List.getElem?_eq_some_iff.mp hk).1)]
  exact hk
theorem z_recF (hK : zK G s) (hN : zNA G ad n N g (zRest G ad na ma π dep fl T) τ H) : ∃ cell : Cell, H[ma 0]? = some cell ∧ cell.vm.isStatics = false ∧ s.vm.findClass RX4 = some cell.cls := va_recv hK (zMis_p hN) (ci := 4) (q0 := 0) rfl rfl
theorem z_recP1 (hK : zK G s) (hN : zNA G ad n N g (zRest G ad na ma π dep fl T) τ H) : ∃ cell : Cell, H[ma 1]? = some cell ∧ cell.vm.isStatics = false ∧ s.vm.findClass RX2 = some cell.cls := va_recv hK (zMis_p hN) (ci := 2) (q0 := 1) rfl rfl
theorem z_recP2 (hK : zK G s) (hN : zNA G ad n N g (zRest G ad na ma π dep fl T) τ H) : ∃ cell : Cell, H[ma 2]? = some cell ∧ cell.vm.isStatics = false ∧ s.vm.findClass RX2 = some cell.cls := va_recv hK (zMis_p hN) (ci := 2) (q0 := 2) rfl rfl
theorem z_recH (hK : zK G s) (hN : zNA G ad n N g (zRest G ad na ma π dep fl T) τ H) : ∃ cell : Cell, H[ma 3]? = some cell ∧ cell.vm.isStatics = false ∧ s.vm.findClass RX0 = some cell.cls := va_recv hK (zMis_p hN) (ci := 0) (q0 := 3) rfl rfl
theorem z_recJ (hK : zK G s) (hN : zNA G ad n N g (zRest G ad na ma π dep fl T) τ H) {j : Nat} (h1 : 1 ≤ j) (h10 : j < 10) : ∃ cell : Cell, H[na j 0]? = some cell ∧ cell.vm.isStatics = false ∧ s.vm.findClass RX1 = some cell.cls := by
  obtain ⟨τ2, -, hP⟩ := hN
  exact va_recv hK hP (ci := 1) (q0 := 15 + (7 + (15 * (j - 1) + 0))) rfl (by rw [zNet_X]; exact zRest_j h1 h10 (by decide))
/-- getfield of the class's object -/
theorem z_getF (hx : p.tables.exec = Jvm.exec) (hb : c.code = cc) (hts : ∀ w ∈ Ts, w.before args s = true) (hown : s.vm.findClass own = some m.cls) (hin : ∀ w ∈ wsX40, w ∈ Ts) (hK : zK G s) (hN : zNA G ad n N g (zRest G ad na ma π dep fl T) τ H) (k : Nat) (hk : k < 7) (hsm : (TX4 k).1 = RX4) (hl : (Cond.fieldLink own index RX4 (TX4 k).2.1 (TX4 k).2.2.1).before args s = true) (hv : ([.ref (ad 0), .ref (ma 1), .ref (na 1 0), .ref (ma 2), .ref (ma 3), .ref (ma 5), .ref (ma 6)] : List Value)[k]? = some v) (hdg : decode cc pc = .ok (.getfield index, 3))
    (kk : W p l e R s m args below meth c H locs cells slots Q (F0 m (pc + 3) ls (v :: rest))) : W p l e R s m args below meth c H locs cells slots Q (F0 m pc ls (.ref (ma 0) :: rest)) :=
  va_get (D := G.1) (ci := 4) (C := RX4) (T := TX4) (N := 7) hx hb hts hin hown hK (zMis_p hN) 0 rfl rfl k hk hl (fun _ h => hsm ▸ h) hv hdg kk
/-- getfield of the history -/
theorem z_getH (hx : p.tables.exec = Jvm.exec) (hb : c.code = cc) (hts : ∀ w ∈ Ts, w.before args s = true) (hown : s.vm.findClass own = some m.cls) (hin : ∀ w ∈ wsX00, w ∈ Ts) (hK : zK G s) (hN : zNA G ad n N g (zRest G ad na ma π dep fl T) τ H) (k : Nat) (hk : k < 2) (hsm : (TX0 k).1 = RX0) (hl : (Cond.fieldLink own index RX0 (TX0 k).2.1 (TX0 k).2.2.1).before args s = true) (hv : ([.ref (ma 4), .int (nI dep)] : List Value)[k]? = some v) (hdg : decode cc pc = .ok (.getfield index, 3))
    (kk : W p l e R s m args below meth c H locs cells slots Q (F0 m (pc + 3) ls (v :: rest))) : W p l e R s m args below meth c H locs cells slots Q (F0 m pc ls (.ref (ma 3) :: rest)) :=
  va_get (D := G.1) (ci := 0) (C := RX0) (T := TX0) (N := 2) hx hb hts hin hown hK (zMis_p hN) 3 rfl rfl k hk hl (fun _ h => hsm ▸ h) hv hdg kk
/-- aaload of the saved networks, of the snapshots -/
theorem z_aaldV (hx : p.tables.exec = Jvm.exec) (hb : c.code = cc) (hK : zK G s) (hN : zNA G ad n N g (zRest G ad na ma π dep fl T) τ H) {x : Int32} {i : Nat} (hxi : x = nI i) (hi : i < 6) (hdg : decode cc pc = .ok (.aaload, 1))
    (kk : W p l e R s m args below meth c H locs cells slots Q (F0 m (pc + 1) ls (.ref (na (π i) 0) :: rest))) : W p l e R s m args below meth c H locs cells slots Q (F0 m pc ls (.int x :: .ref (ma 4) :: rest)) := by
  subst hxi
  refine va_aldq hx hb hK (zMis_p hN) 4 2 (cA := G.2.2.2.1) (C := RX1) (n := 6) (f := fun i => some (na (π i) 0)) rfl rfl (vp_in_nI hi (by omega)) hdg ?_
  rw [nI_clamp (by omega)]
  exact kk
theorem z_aaldP (hx : p.tables.exec = Jvm.exec) (hb : c.code = cc) (hK : zK G s) (hN : zNA G ad n N g (zRest G ad na ma π dep fl T) τ H) {x : Int32} {i : Nat} (hxi : x = nI i) (hi : i < 2) (hdg : decode cc pc = .ok (.aaload, 1))
    (kk : W p l e R s m args below meth c H locs cells slots Q (F0 m (pc + 1) ls (.ref (na (8 + i) 0) :: rest))) : W p l e R s m args below meth c H locs cells slots Q (F0 m pc ls (.int x :: .ref (ma 5) :: rest)) := by
  subst hxi
  refine va_aldq hx hb hK (zMis_p hN) 5 2 (cA := G.2.2.2.1) (C := RX1) (n := 2) (f := fun i => some (na (8 + i) 0)) rfl rfl (vp_in_nI hi (by omega)) hdg ?_
  rw [nI_clamp (by omega)]
  exact kk
theorem z_zaldF (hx : p.tables.exec = Jvm.exec) (hb : c.code = cc) (hK : zK G s) (hN : zNA G ad n N g (zRest G ad na ma π dep fl T) τ H) {x : Int32} {i : Nat} (hxi : x = nI i) (hi : i < 2) (hdg : decode cc pc = .ok (.baload, 1))
    (kk : W p l e R s m args below meth c H locs cells slots Q (F0 m (pc + 1) ls (.int (fl i) :: rest))) : W p l e R s m args below meth c H locs cells slots Q (F0 m pc ls (.int x :: .ref (ma 6) :: rest)) := by
  subst hxi
  refine va_zald hx hb hK (zMis_p hN) 6 3 (cA := G.2.2.2.2) (n := 2) (f := fl) rfl rfl (vp_in_nI hi (by omega)) hdg ?_
  rw [nI_clamp (by omega)]
  exact kk
/-- a store into one of the class's own cells -/
theorem zMis_set {π2 : Nat → Nat} {dep2 : Nat} {fl2 : Nat → Int32} {k : Nat} (hk : k < 7) {x : Nat × va_E} (h : (zMis G ad na ma π dep fl).set k x = zMis G ad na ma π2 dep2 fl2) : (zNet G ad n g τ ++ zRest G ad na ma π dep fl T).set (15 + k) x = zNet G ad n g τ ++ zRest G ad na ma π2 dep2 fl2 T := by
  rw [List.set_append_right _ _ (by rw [zNet_len]; omega), zNet_len, show 15 + k - 15 = k by omega]
  unfold zRest
  rw [List.set_append_left _ _ (by simpa [zMis] using hk), h]
theorem z_putH (hx : p.tables.exec = Jvm.exec) (hb : c.code = cc) (hts : ∀ w ∈ Ts, w.before args s = true) (hown : s.vm.findClass own = some m.cls) (hin : ∀ w ∈ wsX00, w ∈ Ts) (hK : zK G s) (hA : zAp G ad (zRest G ad na ma π dep fl T) A) (hS : va_S A H0 H locs) (hN : zNA G ad n N g (zRest G ad na ma π dep fl T) τ H) (hl : (Cond.fieldLink own index RX0 (TX0 1).2.1 (TX0 1).2.2.1).before args s = true) {w : Int32} (dep2 : Nat) (hw : w = nI dep2) (hdg : decode cc pc = .ok (.putfield index, 3))
    (kk : ∀ (H1 : Heap) (locs1 : List Loc), zNA G ad n N g (zRest G ad na ma π dep2 fl T) τ H1 → va_S A H0 H1 locs1 → W p l e R s m args below meth c H1 locs1 cells slots Q (F0 m (pc + 3) ls rest)) : W p l e R s m args below meth c H locs cells slots Q (F0 m pc ls (.int w :: .ref (ma 3) :: rest)) := by
  subst hw
  obtain ⟨τ2, hg, hP⟩ := hN
  refine va_put (D := G.1) (ci := 0) (C := RX0) (T := TX0) (N := 2) (ty := .int) (v := .int (nI dep2)) hx hb hts hin tyX0 tyX0_ok nmX0 hown hK hP (hA n g τ2) hS (15 + 3) (zRest_at _ rfl (by decide)) rfl 1 (by decide) hl (fun _ h => h) rfl (by decide +kernel) rfl rfl (Nat.le_of_ble_eq_true rfl) hdg (fun H1 locs1 hP1 hD1 hS1 => kk H1 locs1 ⟨τ2, hg, ?_⟩ hS1)
  rwa [zMis_set (π2 := π) (dep2 := dep2) (fl2 := fl) (by decide) rfl] at hP1
theorem z_zastF (hx : p.tables.exec = Jvm.exec) (hb : c.code = cc) (hK : zK G s) (hA : zAp G ad (zRest G ad na ma π dep fl T) A) (hS : va_S A H0 H locs) (hN : zNA G ad n N g (zRest G ad na ma π dep fl T) τ H) {x w : Int32} {i : Nat} (hw : vp_nar .boolean w = w) (hxi : x = nI i) (hi : i < 2) (hdg : decode cc pc = .ok (.bastore, 1))
    (kk : ∀ (H1 : Heap) (locs1 : List Loc), zNA G ad n N g (zRest G ad na ma π dep (upd fl i w) T) τ H1 → va_S A H0 H1 locs1 → W p l e R s m args below meth c H1 locs1 cells slots Q (F0 m (pc + 1) ls rest)) : W p l e R s m args below meth c H locs cells slots Q (F0 m pc ls (.int w :: .int x :: .ref (ma 6) :: rest)) := by
  subst hxi
  obtain ⟨τ2, hg, hP⟩ := hN
  refine va_zast hx hb hK hP (hA n g τ2) hS (15 + 6) 3 (cA := G.2.2.2.2) (n := 2) (f := fl) (zRest_at _ rfl (by decide)) rfl (vp_in_nI hi (by omega)) hdg (fun H1 locs1 hP1 hD1 hS1 => kk H1 locs1 ⟨τ2, hg, ?_⟩ hS1)
  rw [nI_clamp (by omega), hw] at hP1
  rwa [zMis_set (π2 := π) (dep2 := dep) (fl2 := upd fl i w) (by decide) rfl] at hP1
theorem z_aastV (hx : p.tables.exec = Jvm.exec) (hb : c.code = cc) (hK : zK G s) (hA : zAp G ad (zRest G ad na ma π dep fl T) A) (hS : va_S A H0 H locs) (hN : zNA G ad n N g (zRest G ad na ma π dep fl T) τ H) {x : Int32} {i j : Nat} (hxi : x = nI i) (hi : i < 6) (hj1 : 1 ≤ j) (hj : j < 10) (hdg : decode cc pc = .ok (.aastore, 1))
    (kk : ∀ (H1 : Heap) (locs1 : List Loc), zNA G ad n N g (zRest G ad na ma (va_up π i j) dep fl T) τ H1 → va_S A H0 H1 locs1 → W p l e R s m args below meth c H1 locs1 cells slots Q (F0 m (pc + 1) ls rest)) : W p l e R s m args below meth c H locs cells slots Q (F0 m pc ls (.ref (na j 0) :: .int x :: .ref (ma 4) :: rest)) := by
  subst hxi
  obtain ⟨τ2, hg, hP⟩ := hN
  refine va_astq hx hb hK hP (hA n g τ2) hS (15 + 4) 2 (15 + (7 + (15 * (j - 1) + 0))) 1 (cA := G.2.2.2.1) (r := (RX1, TX1, 11)) (n := 6) (f := fun i => some (na (π i) 0)) (zRest_at _ rfl (by decide)) rfl (by rw [zNet_X]; exact zRest_j hj1 hj (by decide)) rfl (vp_in_nI hi (by omega)) hdg (fun H1 locs1 hP1 hD1 hS1 => kk H1 locs1 ⟨τ2, hg, ?_⟩ hS1)
  rw [nI_clamp (by omega)] at hP1
  have e : va_up (fun i => some (na (π i) 0)) i (some (na j 0)) = fun k => some (na ((va_up π i j) k) 0) := by
    funext k
    unfold va_up
    by_cases h : k = i
    · rw [if_pos h, if_pos h]
    · rw [if_neg h, if_neg h]
  rw [e] at hP1
  rwa [zMis_set (π2 := va_up π i j) (dep2 := dep) (fl2 := fl) (by decide) rfl] at hP1
end ZTOP
