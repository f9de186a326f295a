/-! ===== the state of a network, as the reference's cells have it: row 0 to 8 a sensor's fields, 9 readings, 10 elected, 11 the numbers (by the reference's places) ===== -/
abbrev zT : Type := Nat → Nat → Int32
def zSt (τ : zT) (f i : Nat) (v : Int32) : zT := fun f2 i2 => cond (Nat.beq f2 f && Nat.beq i2 i) v (τ f2 i2)
theorem zBeq_f {a b : Nat} (h : ¬ a = b) : Nat.beq a b = false := by
  cases h2 : Nat.beq a b
  · rfl
  · exact absurd (Nat.eq_of_beq_eq_true h2) h
theorem zBeq_t (a : Nat) : Nat.beq a a = true := Nat.beq_refl a
theorem zSt_ap (τ : zT) (f i : Nat) (v : Int32) (f2 i2 : Nat) : zSt τ f i v f2 i2 = if f2 = f ∧ i2 = i then v else τ f2 i2 := by
  unfold zSt
  by_cases h1 : f2 = f <;> by_cases h2 : i2 = i
  · rw [if_pos ⟨h1, h2⟩, h1, h2]
    simp
  · rw [if_neg (fun q => h2 q.2), h1, zBeq_f h2]
    simp
  · rw [if_neg (fun q => h1 q.1), zBeq_f h1]
    simp
  · rw [if_neg (fun q => h1 q.1), zBeq_f h1]
    simp
theorem zSt_self (τ : zT) (f i : Nat) (v : Int32) : zSt τ f i v f i = v := by rw [zSt_ap, if_pos ⟨rfl, rfl⟩]
theorem zSt_nf (τ : zT) {f f2 : Nat} (i i2 : Nat) (v : Int32) (h : f2 ≠ f) : zSt τ f i v f2 i2 = τ f2 i2 := by rw [zSt_ap, if_neg (fun q => h q.1)]
theorem zSt_ni (τ : zT) (f f2 : Nat) {i i2 : Nat} (v : Int32) (h : i2 ≠ i) : zSt τ f i v f2 i2 = τ f2 i2 := by rw [zSt_ap, if_neg (fun q => h q.2)]
theorem zSt_same {τ : zT} {f i : Nat} {v : Int32} (h : τ f i = v) : zSt τ f i v = τ := by
  funext f2 i2
  rw [zSt_ap]
  split
  · rename_i q
    rw [q.1, q.2, h]
  · rfl
theorem zSt_comm (τ : zT) {f i f2 i2 : Nat} (v w : Int32) (h : ¬ (f = f2 ∧ i = i2)) : zSt (zSt τ f i v) f2 i2 w = zSt (zSt τ f2 i2 w) f i v := by
  funext a b
  rw [zSt_ap, zSt_ap, zSt_ap, zSt_ap]
  by_cases h1 : a = f2 ∧ b = i2
  · rw [if_pos h1, if_neg (fun q => h ⟨q.1.symm.trans h1.1, q.2.symm.trans h1.2⟩), if_pos h1]
  · rw [if_neg h1, if_neg h1]
theorem zSt_twice (τ : zT) (f i : Nat) (v w : Int32) : zSt (zSt τ f i v) f i w = zSt τ f i w := by
  funext a b
  rw [zSt_ap, zSt_ap, zSt_ap]
  by_cases h1 : a = f ∧ b = i
  · rw [if_pos h1, if_pos h1]
  · rw [if_neg h1, if_neg h1, if_neg h1]
/-- two states that the class can't tell apart: the numbers, and the first n sensors -/
def zAg (n : Nat) (τ τ2 : zT) : Prop := (∀ k, 9 ≤ k → k < 15 → τ 11 k = τ2 11 k) ∧ ∀ f i, f < 11 → i < n → τ f i = τ2 f i
theorem zAg.rf {n : Nat} {τ : zT} : zAg n τ τ := ⟨fun _ _ _ => rfl, fun _ _ _ _ => rfl⟩
theorem zAg.symm {n : Nat} {τ τ2 : zT} (h : zAg n τ τ2) : zAg n τ2 τ := ⟨fun k a b => (h.1 k a b).symm, fun f i hf hi => (h.2 f i hf hi).symm⟩
theorem zAg.trans {n : Nat} {τ τ2 τ3 : zT} (h : zAg n τ τ2) (h2 : zAg n τ2 τ3) : zAg n τ τ3 := ⟨fun k a b => (h.1 k a b).trans (h2.1 k a b), fun f i hf hi => (h.2 f i hf hi).trans (h2.2 f i hf hi)⟩
theorem zAg.st {n : Nat} {τ τ2 : zT} (h : zAg n τ τ2) (f i : Nat) (v : Int32) : zAg n (zSt τ f i v) (zSt τ2 f i v) := by
  refine ⟨fun k a b => ?_, fun f2 i2 hf hi => ?_⟩
  · rw [zSt_ap, zSt_ap, h.1 k a b]
  · rw [zSt_ap, zSt_ap, h.2 f2 i2 hf hi]
/-! the cells of a network: ad 0 the object, ad 1 its row of sensors, ad 2 its settings, ad (3 + i) sensor i -/
def zSen (τ : zT) (i : Nat) : List Value := [.int (τ 0 i), .int (τ 1 i), .int (τ 2 i), .int (zBi (τ 3 i = 1)), .int (zBi (τ 4 i = 1)), .int (τ 5 i), .int (τ 6 i), .int (τ 7 i), .int (τ 8 i), .int (zBi (τ 10 i = 1)), .int (τ 9 i)]
def zObj (ad : Nat → Nat) (n : Nat) (g : Nat → Int32) (τ : zT) : List Value := [.ref (ad 1), .ref (ad 2), .int (nI n), .int (g 1), .int (g 2), .int (τ 11 9), .int (τ 11 10), .int (τ 11 11), .int (τ 11 12), .int (τ 11 13), .int (τ 11 14)]
def zSenC (ad : Nat → Nat) (τ : zT) (i : Nat) : Nat × va_E := (ad (3 + i), .inr (3, zSen τ i))
def zNet (G : zG) (ad : Nat → Nat) (n : Nat) (g : Nat → Int32) (τ : zT) : va_W := (ad 0, .inr (1, zObj ad n g τ)) :: (ad 1, .inl (G.2.1, 12, .inr (.inr (.inr (.inr (fun i => some (ad (3 + i)))))))) :: (ad 2, .inl (G.2.2.1, 6, .inl (fun j => g (3 + j)))) :: (List.range 12).map (zSenC ad τ)
theorem zNet_len (G : zG) (ad : Nat → Nat) (n : Nat) (g : Nat → Int32) (τ : zT) : (zNet G ad n g τ).length = 15 := by simp [zNet]
theorem zNet_s {G : zG} {ad : Nat → Nat} {n : Nat} {g : Nat → Int32} {τ : zT} (X : va_W) {i : Nat} (hi : i < 12) : (zNet G ad n g τ ++ X)[3 + i]? = some (zSenC ad τ i) := by
  rw [List.getElem?_append_left (by rw [zNet_len]; omega)]
  rw [show 3 + i = i + 1 + 1 + 1 by omega]
  simp [zNet, hi]
theorem zNet_3 {G : zG} {ad : Nat → Nat} {n : Nat} {g : Nat → Int32} {τ : zT} (X : va_W) {k : Nat} (hk : k < 3) : (zNet G ad n g τ ++ X)[k]? = (zNet G ad n g τ)[k]? := List.getElem?_append_left (by rw [zNet_len]; omega)
theorem zNet_X {G : zG} {ad : Nat → Nat} {n : Nat} {g : Nat → Int32} {τ : zT} (X : va_W) (k : Nat) : (zNet G ad n g τ ++ X)[15 + k]? = X[k]? := by
  rw [List.getElem?_append_right (by rw [zNet_len]; omega), zNet_len]
  congr 1
  omega
/-- a place of a network's world -/
theorem zNet_cases {G : zG} {ad : Nat → Nat} {n : Nat} {g : Nat → Int32} {τ : zT} {X : va_W} {j : Nat} : j = 0 ∨ j = 1 ∨ j = 2 ∨ (∃ i, i < 12 ∧ j = 3 + i) ∨ ∃ k, j = 15 + k := by
  by_cases h : j < 15
  · by_cases h2 : j < 3
    · omega
    · exact Or.inr (Or.inr (Or.inr (Or.inl ⟨j - 3, by omega, by omega⟩)))
  · exact Or.inr (Or.inr (Or.inr (Or.inr ⟨j - 15, by omega⟩)))
theorem zNet_setS {G : zG} {ad : Nat → Nat} {n : Nat} {g : Nat → Int32} {τ τ2 : zT} (X : va_W) {i : Nat} (hi : i < 12) (h1 : ∀ j, j ≠ i → zSen τ2 j = zSen τ j) (h2 : zObj ad n g τ2 = zObj ad n g τ) : (zNet G ad n g τ ++ X).set (3 + i) (zSenC ad τ2 i) = zNet G ad n g τ2 ++ X := by
  apply List.ext_getElem?
  intro j
  by_cases hj : j = 3 + i
  · subst hj
    rw [List.getElem?_set_self (by rw [List.length_append, zNet_len]; omega), zNet_s X hi]
  · rw [List.getElem?_set_ne (Ne.symm hj)]
    rcases zNet_cases (G := G) (ad := ad) (n := n) (g := g) (τ := τ) (X := X) (j := j) with rfl | rfl | rfl | ⟨k, hk, rfl⟩ | ⟨k, rfl⟩
    · rw [zNet_3 X (by omega), zNet_3 X (by omega)]
      simp only [zNet, List.getElem?_cons_zero, h2]
    · rw [zNet_3 X (by omega), zNet_3 X (by omega)]
      rfl
    · rw [zNet_3 X (by omega), zNet_3 X (by omega)]
      rfl
    · rw [zNet_s X hk, zNet_s X hk]
      unfold zSenC
      rw [h1 k (fun q => hj (by rw [q]))]
    · rw [zNet_X, zNet_X]
theorem zNet_setO1 {G : zG} {ad : Nat → Nat} {n : Nat} {g : Nat → Int32} {τ τ2 : zT} (X : va_W) (h1 : ∀ j, zSen τ2 j = zSen τ j) : (zNet G ad n g τ ++ X).set 0 (ad 0, .inr (1, zObj ad n g τ2)) = zNet G ad n g τ2 ++ X := by
  apply List.ext_getElem?
  intro j
  by_cases hj : j = 0
  · subst hj
    rw [List.getElem?_set_self (by rw [List.length_append, zNet_len]; omega), zNet_3 X (by omega)]
    rfl
  · rw [List.getElem?_set_ne (Ne.symm hj)]
    rcases zNet_cases (G := G) (ad := ad) (n := n) (g := g) (τ := τ) (X := X) (j := j) with rfl | rfl | rfl | ⟨k, hk, rfl⟩ | ⟨k, rfl⟩
    · exact absurd rfl hj
    · rw [zNet_3 X (by omega), zNet_3 X (by omega)]
      rfl
    · rw [zNet_3 X (by omega), zNet_3 X (by omega)]
      rfl
    · rw [zNet_s X hk, zNet_s X hk]
      unfold zSenC
      rw [h1 k]
    · rw [zNet_X, zNet_X]
/-- the heap holds a network of n sensors and the fixed numbers g in a state that can't be told from τ by its first N sensors; and the cells X -/
def zNA (G : zG) (ad : Nat → Nat) (n N : Nat) (g : Nat → Int32) (X : va_W) (τ : zT) (H : Heap) : Prop := ∃ τ2, zAg N τ τ2 ∧ va_P G.1 vwCl (zNet G ad n g τ2 ++ X) H
theorem zNA.to {G : zG} {ad : Nat → Nat} {n N : Nat} {g : Nat → Int32} {X : va_W} {τ τ3 : zT} {H : Heap} (h : zNA G ad n N g X τ H) (h2 : zAg N τ3 τ) : zNA G ad n N g X τ3 H := by
  obtain ⟨τ2, h1, hP⟩ := h
  exact ⟨τ2, h2.trans h1, hP⟩
theorem zNA.cast {G : zG} {ad : Nat → Nat} {n N : Nat} {g : Nat → Int32} {X : va_W} {τ τ3 : zT} {H : Heap} (h : zNA G ad n N g X τ H) (h2 : τ = τ3) : zNA G ad n N g X τ3 H := h2 ▸ h
/-- the addresses: apart, and in A -/
def zAp (G : zG) (ad : Nat → Nat) (X : va_W) (A : Nat → Prop) : Prop := ∀ (n : Nat) (g : Nat → Int32) (τ : zT), va_D A (zNet G ad n g τ ++ X)
/-- the cell of a Rounds object, beside its network -/
abbrev zX (r : Nat) (ad : Nat → Nat) : va_W := [(r, .inr (2, [.ref (ad 0)]))]
theorem zSet0 (τ : zT) (i : Nat) (w : Int32) : (zSen τ i).set 0 (.int w) = zSen (zSt τ 0 i w) i := by simp [zSen, zSt_ap]
theorem zSet1 (τ : zT) (i : Nat) (w : Int32) : (zSen τ i).set 1 (.int w) = zSen (zSt τ 1 i w) i := by simp [zSen, zSt_ap]
theorem zSet2 (τ : zT) (i : Nat) (w : Int32) : (zSen τ i).set 2 (.int w) = zSen (zSt τ 2 i w) i := by simp [zSen, zSt_ap]
theorem zSet3 (τ : zT) (i : Nat) {v w : Int32} (h : v = zBi (w = 1)) : (zSen τ i).set 3 (.int v) = zSen (zSt τ 3 i w) i := by simp [zSen, zSt_ap, h]
theorem zSet4 (τ : zT) (i : Nat) {v w : Int32} (h : v = zBi (w = 1)) : (zSen τ i).set 4 (.int v) = zSen (zSt τ 4 i w) i := by simp [zSen, zSt_ap, h]
theorem zSet5 (τ : zT) (i : Nat) (w : Int32) : (zSen τ i).set 5 (.int w) = zSen (zSt τ 5 i w) i := by simp [zSen, zSt_ap]
theorem zSet6 (τ : zT) (i : Nat) (w : Int32) : (zSen τ i).set 6 (.int w) = zSen (zSt τ 6 i w) i := by simp [zSen, zSt_ap]
theorem zSet7 (τ : zT) (i : Nat) (w : Int32) : (zSen τ i).set 7 (.int w) = zSen (zSt τ 7 i w) i := by simp [zSen, zSt_ap]
theorem zSet8 (τ : zT) (i : Nat) (w : Int32) : (zSen τ i).set 8 (.int w) = zSen (zSt τ 8 i w) i := by simp [zSen, zSt_ap]
theorem zSet9 (τ : zT) (i : Nat) {v w : Int32} (h : v = zBi (w = 1)) : (zSen τ i).set 9 (.int v) = zSen (zSt τ 10 i w) i := by simp [zSen, zSt_ap, h]
theorem zSet10 (τ : zT) (i : Nat) (w : Int32) : (zSen τ i).set 10 (.int w) = zSen (zSt τ 9 i w) i := by simp [zSen, zSt_ap]
theorem zSen_ne (τ : zT) {f i j : Nat} (w : Int32) (h : j ≠ i) : zSen (zSt τ f i w) j = zSen τ j := by simp [zSen, zSt_ap, h]
theorem zSen_11 (τ : zT) (k j : Nat) (w : Int32) : zSen (zSt τ 11 k w) j = zSen τ j := by simp [zSen, zSt_ap]
theorem zObj_ne (ad : Nat → Nat) (n : Nat) (g : Nat → Int32) (τ : zT) {f i : Nat} (w : Int32) (h : f ≠ 11) : zObj ad n g (zSt τ f i w) = zObj ad n g τ := by simp [zObj, zSt_ap, Ne.symm h]
theorem zObs5 (ad : Nat → Nat) (n : Nat) (g : Nat → Int32) (τ : zT) (w : Int32) : (zObj ad n g τ).set 5 (.int w) = zObj ad n g (zSt τ 11 9 w) := by simp [zObj, zSt_ap]
theorem zObs6 (ad : Nat → Nat) (n : Nat) (g : Nat → Int32) (τ : zT) (w : Int32) : (zObj ad n g τ).set 6 (.int w) = zObj ad n g (zSt τ 11 10 w) := by simp [zObj, zSt_ap]
theorem zObs7 (ad : Nat → Nat) (n : Nat) (g : Nat → Int32) (τ : zT) (w : Int32) : (zObj ad n g τ).set 7 (.int w) = zObj ad n g (zSt τ 11 11 w) := by simp [zObj, zSt_ap]
theorem zObs8 (ad : Nat → Nat) (n : Nat) (g : Nat → Int32) (τ : zT) (w : Int32) : (zObj ad n g τ).set 8 (.int w) = zObj ad n g (zSt τ 11 12 w) := by simp [zObj, zSt_ap]
theorem zObs9 (ad : Nat → Nat) (n : Nat) (g : Nat → Int32) (τ : zT) (w : Int32) : (zObj ad n g τ).set 9 (.int w) = zObj ad n g (zSt τ 11 13 w) := by simp [zObj, zSt_ap]
theorem zObs10 (ad : Nat → Nat) (n : Nat) (g : Nat → Int32) (τ : zT) (w : Int32) : (zObj ad n g τ).set 10 (.int w) = zObj ad n g (zSt τ 11 14 w) := by simp [zObj, zSt_ap]
/-! rows of instructions over a network -/
section ZNET
variable {p : Program} {l : Launch} {e : Env} {R : Room} {s : State} {m : MethodId} {args : Array Value} {below : List Frame} {meth : Method} {c : Code} {H : Heap} {locs : List Loc} {cells slots : Nat} {Q : State → Prop}
variable {cc : ByteArray} {pc : Nat} {ls : Array Slot} {rest : List Value} {G : zG} {A : Nat → Prop} {H0 : Heap} {Ts : List Cond} {own : String} {index : Nat} {ad : Nat → Nat} {n N : Nat} {g : Nat → Int32} {X : va_W} {τ : zT} {r i k : Nat} {v : Value}
theorem z_recN (hK : zK G s) (hN : zNA G ad n N g X τ H) : ∃ cell : Cell, H[ad 0]? = some cell ∧ cell.vm.isStatics = false ∧ s.vm.findClass RX1 = some cell.cls := by
  obtain ⟨τ2, -, hP⟩ := hN
  exact va_recv hK hP (ci := 1) (q0 := 0) rfl rfl
theorem z_recS (hK : zK G s) (hN : zNA G ad n N g X τ H) (hi : i < 12) : ∃ cell : Cell, H[ad (3 + i)]? = some cell ∧ cell.vm.isStatics = false ∧ s.vm.findClass RX3 = some cell.cls := by
  obtain ⟨τ2, -, hP⟩ := hN
  exact va_recv hK hP (ci := 3) (q0 := 3 + i) rfl (zNet_s X hi)
theorem z_recR (hK : zK G s) (hN : zNA G ad n N g (zX r ad) τ H) : ∃ cell : Cell, H[r]? = some cell ∧ cell.vm.isStatics = false ∧ s.vm.findClass RX2 = some cell.cls := by
  obtain ⟨τ2, -, hP⟩ := hN
  exact va_recv hK hP (ci := 2) (q0 := 15) rfl (zNet_X _ 0)
/-- getfield net of a Rounds object -/
theorem z_getR (hx : p.tables.exec = Jvm.exec) (hb : c.code = cc) (hts : ∀ w ∈ Ts, w.before args s = true) (hown : s.vm.findClass own = some m.cls) (hin : ∀ w ∈ wsX20, w ∈ Ts) (hK : zK G s) (hN : zNA G ad n N g (zX r ad) τ H) (hl : (Cond.fieldLink own index RX2 (TX2 0).2.1 (TX2 0).2.2.1).before args s = true) (hdg : decode cc pc = .ok (.getfield index, 3))
    (kk : W p l e R s m args below meth c H locs cells slots Q (F0 m (pc + 3) ls (.ref (ad 0) :: rest))) : W p l e R s m args below meth c H locs cells slots Q (F0 m pc ls (.ref r :: rest)) := by
  obtain ⟨τ2, -, hP⟩ := hN
  exact va_get (D := G.1) (ci := 2) (C := RX2) (T := TX2) (N := 1) hx hb hts hin hown hK hP 15 (zNet_X _ 0) rfl 0 (by decide) hl (fun _ h => h) rfl hdg kk
/-- getfield of a network's object -/
theorem z_getO (hx : p.tables.exec = Jvm.exec) (hb : c.code = cc) (hts : ∀ w ∈ Ts, w.before args s = true) (hown : s.vm.findClass own = some m.cls) (hin : ∀ w ∈ wsX10, w ∈ Ts) (hK : zK G s) (hN : zNA G ad n N g X τ H) (k : Nat) (hk : k < 11) (hsm : (TX1 k).1 = RX1) (hl : (Cond.fieldLink own index RX1 (TX1 k).2.1 (TX1 k).2.2.1).before args s = true) (hv : (zObj ad n g τ)[k]? = some v) (hdg : decode cc pc = .ok (.getfield index, 3))
    (kk : W p l e R s m args below meth c H locs cells slots Q (F0 m (pc + 3) ls (v :: rest))) : W p l e R s m args below meth c H locs cells slots Q (F0 m pc ls (.ref (ad 0) :: rest)) := by
  obtain ⟨τ2, hg, hP⟩ := hN
  have he : zObj ad n g τ2 = zObj ad n g τ := by
    unfold zObj
    rw [hg.1 9 (by decide) (by decide), hg.1 10 (by decide) (by decide), hg.1 11 (by decide) (by decide), hg.1 12 (by decide) (by decide), hg.1 13 (by decide) (by decide), hg.1 14 (by decide) (by decide)]
  exact va_get (D := G.1) (ci := 1) (C := RX1) (T := TX1) (N := 11) hx hb hts hin hown hK hP 0 rfl rfl k hk hl (fun _ h => hsm ▸ h) (he ▸ hv) hdg kk
/-- getfield of a sensor -/
theorem z_getS (hx : p.tables.exec = Jvm.exec) (hb : c.code = cc) (hts : ∀ w ∈ Ts, w.before args s = true) (hown : s.vm.findClass own = some m.cls) (hin : ∀ w ∈ wsX30, w ∈ Ts) (hK : zK G s) (hN12 : N ≤ 12) (hN : zNA G ad n N g X τ H) (hi : i < N) (k : Nat) (hk : k < 11) (hsm : (TX3 k).1 = RX3) (hl : (Cond.fieldLink own index RX3 (TX3 k).2.1 (TX3 k).2.2.1).before args s = true) (hv : (zSen τ i)[k]? = some v) (hdg : decode cc pc = .ok (.getfield index, 3))
    (kk : W p l e R s m args below meth c H locs cells slots Q (F0 m (pc + 3) ls (v :: rest))) : W p l e R s m args below meth c H locs cells slots Q (F0 m pc ls (.ref (ad (3 + i)) :: rest)) := by
  obtain ⟨τ2, hg, hP⟩ := hN
  have he : zSen τ2 i = zSen τ i := by
    unfold zSen
    rw [hg.2 0 i (by decide) hi, hg.2 1 i (by decide) hi, hg.2 2 i (by decide) hi, hg.2 3 i (by decide) hi, hg.2 4 i (by decide) hi, hg.2 5 i (by decide) hi, hg.2 6 i (by decide) hi, hg.2 7 i (by decide) hi, hg.2 8 i (by decide) hi, hg.2 9 i (by decide) hi, hg.2 10 i (by decide) hi]
  exact va_get (D := G.1) (ci := 3) (C := RX3) (T := TX3) (N := 11) hx hb hts hin hown hK hP (3 + i) (zNet_s X (by omega)) rfl k hk hl (fun _ h => hsm ▸ h) (he ▸ hv) hdg kk
/-- aaload of the row of sensors -/
theorem z_aald (hx : p.tables.exec = Jvm.exec) (hb : c.code = cc) (hK : zK G s) (hN : zNA G ad n N g X τ H) {x : Int32} (hxi : x = nI i) (hi : i < 12) (hdg : decode cc pc = .ok (.aaload, 1))
    (kk : W p l e R s m args below meth c H locs cells slots Q (F0 m (pc + 1) ls (.ref (ad (3 + i)) :: rest))) : W p l e R s m args below meth c H locs cells slots Q (F0 m pc ls (.int x :: .ref (ad 1) :: rest)) := by
  subst hxi
  obtain ⟨τ2, hg, hP⟩ := hN
  refine va_aldq hx hb hK hP 1 0 (cA := G.2.1) (C := RX3) (n := 12) (f := fun i => some (ad (3 + i))) rfl rfl (vp_in_nI hi (by omega)) hdg ?_
  rw [nI_clamp (by omega)]
  exact kk
/-- iaload of the settings -/
theorem z_iald (hx : p.tables.exec = Jvm.exec) (hb : c.code = cc) (hK : zK G s) (hN : zNA G ad n N g X τ H) {x w : Int32} (j : Nat) (hxi : x = nI j) (hj : j < 6) (hw : g (3 + j) = w) (hdg : decode cc pc = .ok (.iaload, 1))
    (kk : W p l e R s m args below meth c H locs cells slots Q (F0 m (pc + 1) ls (.int w :: rest))) : W p l e R s m args below meth c H locs cells slots Q (F0 m pc ls (.int x :: .ref (ad 2) :: rest)) := by
  subst hxi
  subst hw
  obtain ⟨τ2, hg, hP⟩ := hN
  refine va_iald hx hb hK hP 2 1 (cA := G.2.2.1) (n := 6) (f := fun j => g (3 + j)) rfl rfl (vp_in_nI hj (by omega)) hdg ?_
  rw [nI_clamp (by omega)]
  exact kk
/-- putfield of a sensor -/
theorem z_putS (hx : p.tables.exec = Jvm.exec) (hb : c.code = cc) (hts : ∀ w ∈ Ts, w.before args s = true) (hown : s.vm.findClass own = some m.cls) (hin : ∀ w ∈ wsX30, w ∈ Ts) (hK : zK G s) (hA : zAp G ad X A) (hS : va_S A H0 H locs) (hN : zNA G ad n N g X τ H) (hi : i < 12) (k f : Nat) (hk : k < 11) (hsm : (TX3 k).1 = RX3) (hf : f ≠ 11) (hl : (Cond.fieldLink own index RX3 (TX3 k).2.1 (TX3 k).2.2.1).before args s = true) {ty : FieldType} (hd : parseFieldDescriptor (TX3 k).2.2.1 = some ty) {w : Int32} (hnr : narrow ty v = v) (hft : fits ty v = true) (hfin : (TX3 k).2.2.2 = false) (hset : ∀ τ : zT, (zSen τ i).set k v = zSen (zSt τ f i w) i) (hdg : decode cc pc = .ok (.putfield index, 3))
    (kk : ∀ (H1 : Heap) (locs1 : List Loc), zNA G ad n N g X (zSt τ f i w) H1 → va_S A H0 H1 locs1 → W p l e R s m args below meth c H1 locs1 cells slots Q (F0 m (pc + 3) ls rest)) : W p l e R s m args below meth c H locs cells slots Q (F0 m pc ls (v :: .ref (ad (3 + i)) :: rest)) := by
  obtain ⟨τ2, hg, hP⟩ := hN
  refine va_put (D := G.1) (ci := 3) (C := RX3) (T := TX3) (N := 11) (ty := ty) (v := v) hx hb hts hin tyX3 tyX3_ok nmX3 hown hK hP (hA n g τ2) hS (3 + i) (zNet_s X hi) rfl k hk hl (fun _ h => hsm ▸ h) hfin hd hnr hft hk hdg (fun H1 locs1 hP1 hD1 hS1 => kk H1 locs1 ⟨zSt τ2 f i w, hg.st f i w, ?_⟩ hS1)
  rw [hset] at hP1
  rwa [show (ad (3 + i), (.inr (3, zSen (zSt τ2 f i w) i) : va_E)) = zSenC ad (zSt τ2 f i w) i from rfl, zNet_setS X hi (fun j hj => zSen_ne τ2 w hj) (zObj_ne ad n g τ2 w hf)] at hP1
/-- putfield of a network's object: one of the numbers that rounds change -/
theorem z_putO (hx : p.tables.exec = Jvm.exec) (hb : c.code = cc) (hts : ∀ w ∈ Ts, w.before args s = true) (hown : s.vm.findClass own = some m.cls) (hin : ∀ w ∈ wsX10, w ∈ Ts) (hK : zK G s) (hA : zAp G ad X A) (hS : va_S A H0 H locs) (hN : zNA G ad n N g X τ H) (k j : Nat) (hk : k < 11) (hsm : (TX1 k).1 = RX1) (hl : (Cond.fieldLink own index RX1 (TX1 k).2.1 (TX1 k).2.2.1).before args s = true) (hd : parseFieldDescriptor (TX1 k).2.2.1 = some .int) {w : Int32} (hfin : (TX1 k).2.2.2 = false) (hset : ∀ τ : zT, (zObj ad n g τ).set k (.int w) = zObj ad n g (zSt τ 11 j w)) (hdg : decode cc pc = .ok (.putfield index, 3))
    (kk : ∀ (H1 : Heap) (locs1 : List Loc), zNA G ad n N g X (zSt τ 11 j w) H1 → va_S A H0 H1 locs1 → W p l e R s m args below meth c H1 locs1 cells slots Q (F0 m (pc + 3) ls rest)) : W p l e R s m args below meth c H locs cells slots Q (F0 m pc ls (.int w :: .ref (ad 0) :: rest)) := by
  obtain ⟨τ2, hg, hP⟩ := hN
  refine va_put (D := G.1) (ci := 1) (C := RX1) (T := TX1) (N := 11) (ty := .int) (v := .int w) hx hb hts hin tyX1 tyX1_ok nmX1 hown hK hP (hA n g τ2) hS 0 rfl rfl k hk hl (fun _ h => hsm ▸ h) hfin hd rfl rfl hk hdg (fun H1 locs1 hP1 hD1 hS1 => kk H1 locs1 ⟨zSt τ2 11 j w, hg.st 11 j w, ?_⟩ hS1)
  rw [hset] at hP1
  rwa [zNet_setO1 X (fun i => zSen_11 τ2 j i w)] at hP1
end ZNET
