/-! ===== two networks side by side; count, base and settings written ===== -/
theorem zNA.ex {G : zG} {ad : Nat → Nat} {n N : Nat} {g : Nat → Int32} {X : va_W} {τ : zT} {H : Heap} (h : zNA G ad n N g X τ H) : ∃ τ2, zAg N τ τ2 ∧ zNA G ad n 12 g X τ2 H := by
  obtain ⟨τ2, h1, hP⟩ := h
  exact ⟨τ2, h1, τ2, zAg.rf, hP⟩
theorem zNA.nar {G : zG} {ad : Nat → Nat} {n N M : Nat} {g : Nat → Int32} {X : va_W} {τ : zT} {H : Heap} (h : zNA G ad n N g X τ H) (hM : M ≤ N) : zNA G ad n M g X τ H := by
  obtain ⟨τ2, h1, hP⟩ := h
  exact ⟨τ2, ⟨h1.1, fun f i hf hi => h1.2 f i hf (by omega)⟩, hP⟩
theorem zNA.other {G : zG} {ad bd : Nat → Nat} {n n2 N : Nat} {g g2 : Nat → Int32} {τ τb : zT} {H : Heap} (h : zNA G ad n N g (zNet G bd n2 g2 τb) τ H) : zNA G bd n2 12 g2 [] τb H := by
  obtain ⟨τ2, h1, hP⟩ := h
  refine ⟨τb, zAg.rf, fun k q hk => ?_⟩
  rw [List.append_nil] at hk
  refine hP (15 + k) q ?_
  rw [zNet_X]
  exact hk
theorem zNA.own {G : zG} {ad : Nat → Nat} {n N : Nat} {g : Nat → Int32} {X : va_W} {τ : zT} {H : Heap} (h : zNA G ad n N g X τ H) : zNA G ad n N g [] τ H := by
  obtain ⟨τ2, h1, hP⟩ := h
  refine ⟨τ2, h1, fun k q hk => ?_⟩
  rw [List.append_nil] at hk
  refine hP k q ?_
  rw [List.getElem?_append_left (List.getElem?_eq_some_iff.mp hk).1]
  exact hk
theorem zNA.both {G : zG} {ad bd : Nat → Nat} {n n2 N : Nat} {g g2 : Nat → Int32} {τ τb : zT} {H : Heap} (h : zNA G ad n N g [] τ H) (h2 : zNA G bd n2 12 g2 [] τb H) : ∃ τb2, zAg 12 τb τb2 ∧ zNA G ad n N g (zNet G bd n2 g2 τb2) τ H := by
  obtain ⟨τ2, h1, hP⟩ := h
  obtain ⟨τb2, h3, hP2⟩ := h2
  rw [List.append_nil] at hP hP2
  exact ⟨τb2, h3, τ2, h1, hP.app hP2⟩
theorem zNet_setO2 {G : zG} {ad : Nat → Nat} {n n2 : Nat} {g g2 : Nat → Int32} {τ : zT} (X : va_W) (h2 : ∀ j, 3 ≤ j → g2 j = g j) : (zNet G ad n g τ ++ X).set 0 (ad 0, .inr (1, zObj ad n2 g2 τ)) = zNet G ad n2 g2 τ ++ X := by
  apply List.ext_getElem?
  intro j
  by_cases hj : j = 0
  · subst hj
    rw [List.getElem?_set_self (by rw [List.length_append, zNet_len]; omega), zNet_3 X (by omega)]
    rfl
  · rw [List.getElem?_set_ne (Ne.symm hj)]
    rcases zNet_cases (G := G) (ad := ad) (n := n) (g := g) (τ := τ) (X := X) (j := j) with rfl | rfl | rfl | ⟨k, hk, rfl⟩ | ⟨k, rfl⟩
    · exact absurd rfl hj
    · rw [zNet_3 X (by omega), zNet_3 X (by omega)]
      rfl
    · rw [zNet_3 X (by omega), zNet_3 X (by omega)]
      simp only [zNet, List.getElem?_cons_succ, List.getElem?_cons_zero]
      have e : (fun j => g2 (3 + j)) = (fun j => g (3 + j)) := funext fun j => h2 _ (by omega)
      rw [e]
    · rw [zNet_s X hk, zNet_s X hk]
    · rw [zNet_X, zNet_X]
theorem zNet_setG {G : zG} {ad : Nat → Nat} {n : Nat} {g g2 : Nat → Int32} {τ : zT} (X : va_W) (h1 : g2 1 = g 1) (h2 : g2 2 = g 2) : (zNet G ad n g τ ++ X).set 2 (ad 2, .inl (G.2.2.1, 6, .inl (fun j => g2 (3 + j)))) = zNet G ad n g2 τ ++ X := by
  apply List.ext_getElem?
  intro j
  by_cases hj : j = 2
  · subst hj
    rw [List.getElem?_set_self (by rw [List.length_append, zNet_len]; omega), zNet_3 X (by omega)]
    rfl
  · rw [List.getElem?_set_ne (Ne.symm hj)]
    rcases zNet_cases (G := G) (ad := ad) (n := n) (g := g) (τ := τ) (X := X) (j := j) with rfl | rfl | rfl | ⟨k, hk, rfl⟩ | ⟨k, rfl⟩
    · rw [zNet_3 X (by omega), zNet_3 X (by omega)]
      simp only [zNet, List.getElem?_cons_zero, zObj, h1, h2]
    · rw [zNet_3 X (by omega), zNet_3 X (by omega)]
      rfl
    · exact absurd rfl hj
    · rw [zNet_s X hk, zNet_s X hk]
    · rw [zNet_X, zNet_X]
/-- of g only 1 to 8 stand in the heap -/
theorem zNA.gext {G : zG} {ad : Nat → Nat} {n N : Nat} {g g2 : Nat → Int32} {X : va_W} {τ : zT} {H : Heap} (h : zNA G ad n N g X τ H) (hg : ∀ j, 1 ≤ j → j < 9 → g j = g2 j) : zNA G ad n N g2 X τ H := by
  obtain ⟨τ2, h1, hP⟩ := h
  refine ⟨τ2, h1, fun k q hk => ?_⟩
  rcases zNet_cases (G := G) (ad := ad) (n := n) (g := g) (τ := τ2) (X := X) (j := k) with rfl | rfl | rfl | ⟨i, hi, rfl⟩ | ⟨i, rfl⟩
  · cases hk
    have := hP 0 _ rfl
    rw [show zObj ad n g2 τ2 = zObj ad n g τ2 by simp [zObj, hg 1 (by decide) (by decide), hg 2 (by decide) (by decide)]]
    exact this
  · cases hk
    exact hP 1 _ rfl
  · cases hk
    have := hP 2 _ rfl
    exact this.trans (congrArg some (zCell_ext (fun j hj => hg (3 + j) (by omega) (by omega))))
  · rw [zNet_s X hi] at hk
    cases hk
    exact hP (3 + i) _ (zNet_s X hi)
  · rw [zNet_X] at hk
    exact hP (15 + i) q (by rw [zNet_X]; exact hk)
section ZCLS
variable {p : Program} {l : Launch} {e : Env} {R : Room} {s : State} {m : MethodId} {args : Array Value} {below : List Frame} {meth : Method} {c : Code} {H : Heap} {locs : List Loc} {cells slots : Nat} {Q : State → Prop}
variable {cc : ByteArray} {pc : Nat} {ls : Array Slot} {rest : List Value} {G : zG} {A : Nat → Prop} {H0 : Heap} {Ts : List Cond} {own : String} {index : Nat} {ad : Nat → Nat} {n N : Nat} {g : Nat → Int32} {X : va_W} {τ : zT} {i k : Nat} {v : Value}
/-- putfield of count, baseX or baseY -/
theorem z_putC (hx : p.tables.exec = Jvm.exec) (hb : c.code = cc) (hts : ∀ w ∈ Ts, w.before args s = true) (hown : s.vm.findClass own = some m.cls) (hin : ∀ w ∈ wsX10, w ∈ Ts) (hK : zK G s) (hA : zAp G ad X A) (hS : va_S A H0 H locs) (hN : zNA G ad n N g X τ H) (k : Nat) (hk : k < 11) (hsm : (TX1 k).1 = RX1) (hl : (Cond.fieldLink own index RX1 (TX1 k).2.1 (TX1 k).2.2.1).before args s = true) (hd : parseFieldDescriptor (TX1 k).2.2.1 = some .int) {w : Int32} (n2 : Nat) (g2 : Nat → Int32) (hg2 : ∀ j, 3 ≤ j → g2 j = g j) (hfin : (TX1 k).2.2.2 = false) (hset : ∀ τ : zT, (zObj ad n g τ).set k (.int w) = zObj ad n2 g2 τ) (hdg : decode cc pc = .ok (.putfield index, 3))
    (kk : ∀ (H1 : Heap) (locs1 : List Loc), zNA G ad n2 N g2 X τ H1 → va_S A H0 H1 locs1 → W p l e R s m args below meth c H1 locs1 cells slots Q (F0 m (pc + 3) ls rest)) : W p l e R s m args below meth c H locs cells slots Q (F0 m pc ls (.int w :: .ref (ad 0) :: rest)) := by
  obtain ⟨τ2, hg, hP⟩ := hN
  refine va_put (D := G.1) (ci := 1) (C := RX1) (T := TX1) (N := 11) (ty := .int) (v := .int w) hx hb hts hin tyX1 tyX1_ok nmX1 hown hK hP (hA n g τ2) hS 0 rfl rfl k hk hl (fun _ h => hsm ▸ h) hfin hd rfl rfl hk hdg (fun H1 locs1 hP1 hD1 hS1 => kk H1 locs1 ⟨τ2, hg, ?_⟩ hS1)
  rw [hset] at hP1
  rwa [zNet_setO2 X hg2] at hP1
/-- iastore of a setting -/
theorem z_iast (hx : p.tables.exec = Jvm.exec) (hb : c.code = cc) (hK : zK G s) (hA : zAp G ad X A) (hS : va_S A H0 H locs) (hN : zNA G ad n N g X τ H) {x w : Int32} (j : Nat) (hxi : x = nI j) (hj : j < 6) (hdg : decode cc pc = .ok (.iastore, 1))
    (kk : ∀ (H1 : Heap) (locs1 : List Loc), zNA G ad n N (upd g (3 + j) w) X τ H1 → va_S A H0 H1 locs1 → W p l e R s m args below meth c H1 locs1 cells slots Q (F0 m (pc + 1) ls rest)) : W p l e R s m args below meth c H locs cells slots Q (F0 m pc ls (.int w :: .int x :: .ref (ad 2) :: rest)) := by
  subst hxi
  obtain ⟨τ2, hg, hP⟩ := hN
  refine va_iast hx hb hK hP (hA n g τ2) hS 2 1 (cA := G.2.2.1) (n := 6) (f := fun j => g (3 + j)) rfl rfl (vp_in_nI hj (by omega)) hdg (fun H1 locs1 hP1 hD1 hS1 => kk H1 locs1 ⟨τ2, hg, ?_⟩ hS1)
  rw [nI_clamp (by omega)] at hP1
  have e : upd (fun j => g (3 + j)) j w = fun i => (upd g (3 + j) w) (3 + i) := by
    funext i
    unfold upd
    by_cases h : i = j
    · rw [if_pos h, if_pos (by omega)]
    · rw [if_neg h, if_neg (by omega)]
  rw [e, zNet_setG X (by unfold upd; rw [if_neg (by omega)]) (by unfold upd; rw [if_neg (by omega)])] at hP1
  exact hP1
/-- System.arraycopy of the settings of another network -/
theorem z_acp (hx : p.tables.exec = Jvm.exec) (hb : c.code = cc) (hml : c.maxLocals = ls.size) (hown : s.vm.findClass own = some m.cls) (hlink : (Cond.methodLink own index arraycopyName).before args s = true) (hnat : (Cond.native arraycopyName).before args s = true) (hstat : (Cond.static arraycopyName).before args s = true) (hini : (Cond.initialized "java/lang/System").before args s = true)
    (hK : zK G s) {bd : Nat → Nat} {n2 : Nat} {g2 : Nat → Int32} {τb : zT} (hA : zAp G ad (zNet G bd n2 g2 τb) A) (hS : va_S A H0 H locs) (hN : zNA G ad n N g (zNet G bd n2 g2 τb) τ H) (hframes : 1 ≤ R.frames) (hlocals : (rest.map fun v => v.category).sum + (nativeFrameWords "java/lang/System" "arraycopy" 5 + 11) ≤ R.locals) (hdg : decode cc pc = .ok (.invokestatic index, 3))
    (kk : ∀ (H1 : Heap) (locs1 : List Loc), zNA G ad n N (fun j => if 3 ≤ j ∧ j < 9 then g2 j else g j) (zNet G bd n2 g2 τb) τ H1 → va_S A H0 H1 locs1 → W p l e R s m args below meth c H1 locs1 cells slots Q (F0 m (pc + 3) ls rest)) : W p l e R s m args below meth c H locs cells slots Q (F0 m pc ls (.int 6 :: .int 0 :: .ref (ad 2) :: .int 0 :: .ref (bd 2) :: rest)) := by
  obtain ⟨τ2, hg, hP⟩ := hN
  refine va_copyi hx hb hml hown hlink hnat hstat hini hK hP (hA n g τ2) hS 17 2 1 1 (a0 := bd 2) (f := fun j => g2 (3 + j)) (g := fun j => g (3 + j)) (ty := .int) (zNet_X _ 2) rfl rfl rfl rfl (by decide) (by decide) (by decide) (Nat.le_of_ble_eq_true rfl) (Nat.le_of_ble_eq_true rfl) (fun _ _ => rfl) hframes hlocals hdg (fun H1 locs1 hP1 hD1 hS1 => kk H1 locs1 ⟨τ2, hg, ?_⟩ hS1)
  have e : va_cpy (fun j => g2 (3 + j)) (fun j => g (3 + j)) (0 : Int32).toNatClampNeg (0 : Int32).toNatClampNeg (6 : Int32).toNatClampNeg = fun j => (fun j => if 3 ≤ j ∧ j < 9 then g2 j else g j) (3 + j) := by
    funext j
    show (if 0 ≤ j ∧ j < 0 + 6 then g2 (3 + (0 + (j - 0))) else g (3 + j)) = if 3 ≤ 3 + j ∧ 3 + j < 9 then g2 (3 + j) else g (3 + j)
    by_cases h : j < 6
    · rw [if_pos (by omega), if_pos (by omega)]
      congr 1
      omega
    · rw [if_neg (by omega), if_neg (by omega)]
  rw [e] at hP1
  have e2 := zNet_setG (G := G) (ad := ad) (n := n) (g := g) (g2 := fun j => if 3 ≤ j ∧ j < 9 then g2 j else g j) (τ := τ2) (zNet G bd n2 g2 τb) (by simp) (by simp)
  rw [← e2]
  exact hP1
end ZCLS
/-- sensor i as the other has it -/
def zCpS (τb : zT) (i : Nat) (τ : zT) : zT := zSt (zSt (zSt (zSt (zSt (zSt (zSt (zSt (zSt τ 0 i (τb 0 i)) 1 i (τb 1 i)) 2 i (τb 2 i)) 3 i (τb 3 i)) 4 i (τb 4 i)) 5 i (τb 5 i)) 6 i (τb 6 i)) 7 i (τb 7 i)) 8 i (τb 8 i)
def zCpG (τb : zT) (τ : zT) : zT := zSt (zSt (zSt (zSt (zSt (zSt τ 11 9 (τb 11 9)) 11 10 (τb 11 10)) 11 11 (τb 11 11)) 11 12 (τb 11 12)) 11 13 (τb 11 13)) 11 14 (τb 11 14)
def zPlc (τ : zT) (i : Nat) (x y b : Int32) : zT := zBr (zSt (zSt (zSt (zSt (zSt (zSt (zSt τ 0 i x) 1 i y) 2 i b) 3 i 1) 4 i 1) 5 i 0) 6 i (-9)) i
theorem zGg (g g2 : Nat → Int32) : ∀ j, 1 ≤ j → j < 9 → upd (upd (fun j => if 3 ≤ j ∧ j < 9 then g2 j else g j) 1 (g2 1)) 2 (g2 2) j = g2 j := by
  intro j h1 h9
  by_cases h2 : j = 2
  · subst h2
    simp [upd]
  · by_cases h3 : j = 1
    · subst h3
      simp [upd]
    · simp only [upd, h2, h3, if_false]
      exact if_pos ⟨by omega, h9⟩
theorem zCpS_at (τb : zT) (f i : Nat) (τ : zT) : ∀ k, (zIt (zCpS τb) k τ) f i = if i < k ∧ f < 9 then τb f i else τ f i := by
  intro k
  induction k with
  | zero => simp [zIt]
  | succ k ih =>
    rw [zIt_s]
    generalize zIt (zCpS τb) k τ = t at ih ⊢
    by_cases hf : f < 9
    · by_cases hik : i = k
      · subst hik
        rw [if_pos ⟨Nat.lt_succ_self i, hf⟩]
        unfold zCpS
        have : f = 0 ∨ f = 1 ∨ f = 2 ∨ f = 3 ∨ f = 4 ∨ f = 5 ∨ f = 6 ∨ f = 7 ∨ f = 8 := by omega
        rcases this with rfl | rfl | rfl | rfl | rfl | rfl | rfl | rfl | rfl <;> simp [zSt_ap]
      · have e : zCpS τb k t f i = t f i := by
          unfold zCpS
          simp [zSt_ap, hik]
        rw [e, ih]
        by_cases hlt : i < k
        · rw [if_pos ⟨hlt, hf⟩, if_pos ⟨by omega, hf⟩]
        · rw [if_neg (fun q => hlt q.1), if_neg (fun q => by omega)]
    · have e : zCpS τb k t f i = t f i := by
        unfold zCpS
        have : f ≠ 0 ∧ f ≠ 1 ∧ f ≠ 2 ∧ f ≠ 3 ∧ f ≠ 4 ∧ f ≠ 5 ∧ f ≠ 6 ∧ f ≠ 7 ∧ f ≠ 8 := by omega
        simp [zSt_ap, this]
      rw [e, ih, if_neg (fun q => hf q.2), if_neg (fun q => hf q.2)]
/-- what was copied can't be told from what it was copied of -/
theorem zCp_ag (τb τ : zT) (n : Nat) : zAg n (zMx τb (zCpG τb (zIt (zCpS τb) n τ))) (zCpG τb (zIt (zCpS τb) n τ)) := by
  refine ⟨fun k h9 h15 => ?_, fun f i hf hi => ?_⟩
  · unfold zMx
    rw [if_neg (by decide)]
    unfold zCpG
    have : k = 9 ∨ k = 10 ∨ k = 11 ∨ k = 12 ∨ k = 13 ∨ k = 14 := by omega
    rcases this with rfl | rfl | rfl | rfl | rfl | rfl <;> simp [zSt_ap]
  · unfold zMx
    by_cases h : f = 9 ∨ f = 10
    · rw [if_pos h]
    · rw [if_neg h]
      unfold zCpG
      rw [zSt_nf _ _ _ _ (by omega), zSt_nf _ _ _ _ (by omega), zSt_nf _ _ _ _ (by omega), zSt_nf _ _ _ _ (by omega), zSt_nf _ _ _ _ (by omega), zSt_nf _ _ _ _ (by omega), zCpS_at, if_pos ⟨hi, by omega⟩]
