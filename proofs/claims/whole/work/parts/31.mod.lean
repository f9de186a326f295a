/-! ===== the reference's cells: its object; s, copy, history, slots, isSaved, isElected, with ===== -/
/-- thrown, copy, history, depth, slots, isSaved -/
abbrev zY : Type := Int32 × (Nat → Int32) × (Nat → Int32) × Int32 × (Nat → Int32) × (Nat → Int32)
def zMA (n : Nat) (g : Nat → Int32) (τ : zT) : Nat → Int32 := fun j => if j < 15 then (if j = 0 then nI n else if j < 9 then g j else τ 11 j) else τ ((j - 15) % 9) ((j - 15) / 9)
def zMf (ad : Nat → Nat) (Y : zY) : List Value := [.int Y.1, .ref (ad 1), .ref (ad 2), .ref (ad 3), .int Y.2.2.2.1, .ref (ad 4), .ref (ad 5), .ref (ad 6), .ref (ad 7)]
def zMW (G : zG) (ad : Nat → Nat) (Y : zY) (σ el wi : Nat → Int32) : va_W := [(ad 0, .inr (5, zMf ad Y)), (ad 1, .inl (G.2.2.1, 123, .inl σ)), (ad 2, .inl (G.2.2.1, 123, .inl Y.2.1)), (ad 3, .inl (G.2.2.1, 738, .inl Y.2.2.1)), (ad 4, .inl (G.2.2.1, 246, .inl Y.2.2.2.2.1)), (ad 5, .inl (G.2.2.2.2, 2, .inl Y.2.2.2.2.2)), (ad 6, .inl (G.2.2.2.2, 12, .inl el)), (ad 7, .inl (G.2.2.1, 12, .inl wi))]
def zMQ (G : zG) (ad : Nat → Nat) (Y : zY) (σ el wi : Nat → Int32) (H : Heap) : Prop := va_P G.1 vwCl (zMW G ad Y σ el wi) H
def zEr (τ : zT) : Nat → Int32 := fun i => zBi (τ 10 i = 1)
/-- the heap holds the reference with n sensors, the fixed numbers g, the state τ -/
def zMP (G : zG) (ad : Nat → Nat) (Y : zY) (n : Nat) (g : Nat → Int32) (τ : zT) (H : Heap) : Prop := zMQ G ad Y (zMA n g τ) (zEr τ) (τ 9) H
theorem zMP.cast {G : zG} {ad : Nat → Nat} {Y Y2 : zY} {n n2 : Nat} {g g2 : Nat → Int32} {τ τ2 : zT} {H : Heap} (h : zMP G ad Y n g τ H) (h1 : Y = Y2) (h2 : n = n2) (h3 : g = g2) (h4 : τ = τ2) : zMP G ad Y2 n2 g2 τ2 H := by
  subst h1; subst h2; subst h3; subst h4
  exact h
def zAm (G : zG) (ad : Nat → Nat) (A : Nat → Prop) : Prop := ∀ (Y : zY) (σ el wi : Nat → Int32), va_D A (zMW G ad Y σ el wi)
theorem zMA_0 (n : Nat) (g : Nat → Int32) (τ : zT) : zMA n g τ 0 = nI n := rfl
theorem zMA_s (n : Nat) (g : Nat → Int32) (τ : zT) {k w : Nat} (hw : w < 9) : zMA n g τ (15 + 9 * k + w) = τ w k := by
  unfold zMA
  rw [if_neg (by omega), show (15 + 9 * k + w - 15) % 9 = w by omega, show (15 + 9 * k + w - 15) / 9 = k by omega]
theorem zMA_us (n : Nat) (g : Nat → Int32) (τ : zT) {k w : Nat} (hw : w < 9) (v : Int32) : upd (zMA n g τ) (15 + 9 * k + w) v = zMA n g (zSt τ w k v) := by
  funext j
  unfold upd zMA
  by_cases hj : j < 15
  · rw [if_neg (by omega), if_pos hj, if_pos hj, zSt_nf _ _ _ _ (by omega)]
  · rw [if_neg hj, if_neg hj, zSt_ap]
    by_cases h : j = 15 + 9 * k + w
    · rw [if_pos h, if_pos ⟨by omega, by omega⟩]
    · rw [if_neg h, if_neg (fun q => h (by omega))]
theorem zMA_ug (n : Nat) (g : Nat → Int32) (τ : zT) {j : Nat} (h9 : 9 ≤ j) (h15 : j < 15) (v : Int32) : upd (zMA n g τ) j v = zMA n g (zSt τ 11 j v) := by
  funext i
  unfold upd zMA
  by_cases hi : i < 15
  · rw [if_pos hi, if_pos hi, zSt_ap]
    by_cases h : i = j
    · subst h
      rw [if_pos rfl, if_neg (by omega), if_neg (by omega), if_pos ⟨rfl, rfl⟩]
    · rw [if_neg h]
      simp only [h, and_false, if_false]
  · rw [if_neg (by omega), if_neg hi, if_neg hi, zSt_nf _ _ _ _ (by omega)]
theorem zMA_un (n n2 : Nat) (g : Nat → Int32) (τ : zT) : upd (zMA n g τ) 0 (nI n2) = zMA n2 g τ := by
  funext i
  unfold upd zMA
  by_cases h : i = 0
  · subst h
    simp
  · simp [h]
theorem zMA_uf (n : Nat) (g : Nat → Int32) (τ : zT) {j : Nat} (h1 : 1 ≤ j) (h9 : j < 9) (v : Int32) : upd (zMA n g τ) j v = zMA n (upd g j v) τ := by
  funext i
  unfold upd zMA
  by_cases h : i = j
  · subst h
    rw [if_pos rfl, if_pos (by omega), if_neg (by omega), if_pos h9]
    simp
  · rw [if_neg h]
    simp only [h, if_false]
theorem zMA_10 (n : Nat) (g : Nat → Int32) (τ : zT) {f : Nat} (hf : 9 ≤ f) (hf2 : f ≤ 10) (k : Nat) (v : Int32) : zMA n g (zSt τ f k v) = zMA n g τ := by
  funext j
  unfold zMA
  by_cases hj : j < 15
  · rw [if_pos hj, if_pos hj, zSt_nf _ _ _ _ (by omega)]
  · rw [if_neg hj, if_neg hj, zSt_nf _ _ _ _ (by omega)]
theorem zEr_ne (τ : zT) {f : Nat} (hf : f ≠ 10) (k : Nat) (v : Int32) : zEr (zSt τ f k v) = zEr τ := by
  funext i
  unfold zEr
  rw [zSt_nf _ _ _ _ (Ne.symm hf)]
theorem zWi_ne (τ : zT) {f : Nat} (hf : f ≠ 9) (k : Nat) (v : Int32) : (zSt τ f k v) 9 = τ 9 := by
  funext i
  rw [zSt_nf _ _ _ _ (Ne.symm hf)]
theorem zEr_10 (τ : zT) (k : Nat) {v w : Int32} (h : v = zBi (w = 1)) : upd (zEr τ) k v = zEr (zSt τ 10 k w) := by
  funext i
  unfold upd zEr
  rw [zSt_ap]
  by_cases q : i = k
  · rw [if_pos q, if_pos ⟨rfl, q⟩, h]
  · rw [if_neg q, if_neg (fun z => q z.2)]
theorem zWi_9 (τ : zT) (k : Nat) (v : Int32) : upd (τ 9) k v = (zSt τ 9 k v) 9 := by
  funext i
  unfold upd
  rw [zSt_ap]
  by_cases q : i = k
  · rw [if_pos q, if_pos ⟨rfl, q⟩]
  · rw [if_neg q, if_neg (fun z => q z.2)]
theorem z_in {j N : Nat} (h : j < N) (hN : N < 2147483648) : vp_in (nI j) N := vp_in_nI h hN
section ZMOD
variable {p : Program} {l : Launch} {e : Env} {R : Room} {s : State} {m : MethodId} {args : Array Value} {below : List Frame} {meth : Method} {c : Code} {H : Heap} {locs : List Loc} {cells slots : Nat} {Q : State → Prop}
variable {cc : ByteArray} {pc : Nat} {ls : Array Slot} {rest : List Value} {G : zG} {A : Nat → Prop} {H0 : Heap} {Ts : List Cond} {index : Nat} {ad : Nat → Nat} {Y : zY} {σ el wi : Nat → Int32} {v : Value}
theorem z_recM (hK : zK G s) (hM : zMQ G ad Y σ el wi H) : ∃ cell : Cell, H[ad 0]? = some cell ∧ cell.vm.isStatics = false ∧ s.vm.findClass RX5 = some cell.cls := va_recv hK hM (ci := 5) (q0 := 0) rfl rfl
theorem z_getM (hx : p.tables.exec = Jvm.exec) (hb : c.code = cc) (hts : ∀ w ∈ Ts, w.before args s = true) (hown : s.vm.findClass RX5 = some m.cls) (hin : ∀ w ∈ wsX50, w ∈ Ts) (hK : zK G s) (hM : zMQ G ad Y σ el wi H) (k : Nat) (hk : k < 9) (hsm : (TX5 k).1 = RX5) (hl : (Cond.fieldLink RX5 index RX5 (TX5 k).2.1 (TX5 k).2.2.1).before args s = true) (hv : (zMf ad Y)[k]? = some v) (hdg : decode cc pc = .ok (.getfield index, 3))
    (kk : W p l e R s m args below meth c H locs cells slots Q (F0 m (pc + 3) ls (v :: rest))) : W p l e R s m args below meth c H locs cells slots Q (F0 m pc ls (.ref (ad 0) :: rest)) :=
  va_get (D := G.1) (ci := 5) (C := RX5) (T := TX5) (N := 9) hx hb hts hin hown hK hM 0 rfl rfl k hk hl (fun _ h => hsm ▸ h) hv hdg kk
theorem z_putM (hx : p.tables.exec = Jvm.exec) (hb : c.code = cc) (hts : ∀ w ∈ Ts, w.before args s = true) (hown : s.vm.findClass RX5 = some m.cls) (hin : ∀ w ∈ wsX50, w ∈ Ts) (hK : zK G s) (hA : zAm G ad A) (hS : va_S A H0 H locs) (hM : zMQ G ad Y σ el wi H) (k : Nat) (hk : k < 9) (hsm : (TX5 k).1 = RX5) (hl : (Cond.fieldLink RX5 index RX5 (TX5 k).2.1 (TX5 k).2.2.1).before args s = true) (hd : parseFieldDescriptor (TX5 k).2.2.1 = some .int) (hfin : (TX5 k).2.2.2 = false) {w : Int32} (Y2 : zY) (hset : (zMf ad Y).set k (.int w) = zMf ad Y2) (h2 : Y.2.1 = Y2.2.1 ∧ Y.2.2.1 = Y2.2.2.1 ∧ Y.2.2.2.2 = Y2.2.2.2.2) (hdg : decode cc pc = .ok (.putfield index, 3))
    (kk : ∀ (H1 : Heap) (locs1 : List Loc), zMQ G ad Y2 σ el wi H1 → va_S A H0 H1 locs1 → W p l e R s m args below meth c H1 locs1 cells slots Q (F0 m (pc + 3) ls rest)) : W p l e R s m args below meth c H locs cells slots Q (F0 m pc ls (.int w :: .ref (ad 0) :: rest)) := by
  refine va_put (D := G.1) (ci := 5) (C := RX5) (T := TX5) (N := 9) (ty := .int) (v := .int w) hx hb hts hin tyX5 tyX5_ok nmX5 hown hK hM (hA Y σ el wi) hS 0 rfl rfl k hk hl (fun _ h => hsm ▸ h) hfin hd rfl rfl hk hdg (fun H1 locs1 hP1 hD1 hS1 => kk H1 locs1 ?_ hS1)
  rw [hset] at hP1
  unfold zMQ
  have e : zMW G ad Y2 σ el wi = (zMW G ad Y σ el wi).set 0 (ad 0, .inr (5, zMf ad Y2)) := by
    unfold zMW
    rw [h2.1, h2.2.1, h2.2.2]
    rfl
  rw [e]
  exact hP1
/-- iaload of one of the int arrays: place q of the world -/
theorem z_ldM (hx : p.tables.exec = Jvm.exec) (hb : c.code = cc) (hK : zK G s) (hM : zMQ G ad Y σ el wi H) (q : Nat) {a len : Nat} {f : Nat → Int32} (ha : (zMW G ad Y σ el wi)[q]? = some (a, .inl (G.2.2.1, len, .inl f))) {x w : Int32} (j : Nat) (hx2 : x = nI j) (hj : j < len) (hlen : len < 2147483648) (hw : f j = w) (hdg : decode cc pc = .ok (.iaload, 1))
    (kk : W p l e R s m args below meth c H locs cells slots Q (F0 m (pc + 1) ls (.int w :: rest))) : W p l e R s m args below meth c H locs cells slots Q (F0 m pc ls (.int x :: .ref a :: rest)) := by
  subst hx2
  subst hw
  refine va_iald hx hb hK hM q 1 ha rfl (vp_in_nI hj hlen) hdg ?_
  rw [nI_clamp (Nat.lt_trans hj hlen)]
  exact kk
theorem z_ldMz (hx : p.tables.exec = Jvm.exec) (hb : c.code = cc) (hK : zK G s) (hM : zMQ G ad Y σ el wi H) (q : Nat) {a len : Nat} {f : Nat → Int32} (ha : (zMW G ad Y σ el wi)[q]? = some (a, .inl (G.2.2.2.2, len, .inl f))) {x w : Int32} (j : Nat) (hx2 : x = nI j) (hj : j < len) (hlen : len < 2147483648) (hw : f j = w) (hdg : decode cc pc = .ok (.baload, 1))
    (kk : W p l e R s m args below meth c H locs cells slots Q (F0 m (pc + 1) ls (.int w :: rest))) : W p l e R s m args below meth c H locs cells slots Q (F0 m pc ls (.int x :: .ref a :: rest)) := by
  subst hx2
  subst hw
  refine va_zald hx hb hK hM q 3 ha rfl (vp_in_nI hj hlen) hdg ?_
  rw [nI_clamp (Nat.lt_trans hj hlen)]
  exact kk
/-- iastore into one of the int arrays -/
theorem z_stM (hx : p.tables.exec = Jvm.exec) (hb : c.code = cc) (hK : zK G s) (hA : zAm G ad A) (hS : va_S A H0 H locs) (hM : zMQ G ad Y σ el wi H) (q : Nat) {a len : Nat} {f : Nat → Int32} (ha : (zMW G ad Y σ el wi)[q]? = some (a, .inl (G.2.2.1, len, .inl f))) {x w : Int32} (j : Nat) (hx2 : x = nI j) (hj : j < len) (hlen : len < 2147483648) (P2 : Heap → Prop) (hP2 : ∀ H1 : Heap, va_P G.1 vwCl ((zMW G ad Y σ el wi).set q (a, .inl (G.2.2.1, len, .inl (upd f j w)))) H1 → P2 H1) (hdg : decode cc pc = .ok (.iastore, 1))
    (kk : ∀ (H1 : Heap) (locs1 : List Loc), P2 H1 → va_S A H0 H1 locs1 → W p l e R s m args below meth c H1 locs1 cells slots Q (F0 m (pc + 1) ls rest)) : W p l e R s m args below meth c H locs cells slots Q (F0 m pc ls (.int w :: .int x :: .ref a :: rest)) := by
  subst hx2
  refine va_iast hx hb hK hM (hA Y σ el wi) hS q 1 ha rfl (vp_in_nI hj hlen) hdg (fun H1 locs1 hP1 hD1 hS1 => kk H1 locs1 (hP2 H1 ?_) hS1)
  rw [nI_clamp (Nat.lt_trans hj hlen)] at hP1
  exact hP1
theorem z_stMz (hx : p.tables.exec = Jvm.exec) (hb : c.code = cc) (hK : zK G s) (hA : zAm G ad A) (hS : va_S A H0 H locs) (hM : zMQ G ad Y σ el wi H) (q : Nat) {a len : Nat} {f : Nat → Int32} (ha : (zMW G ad Y σ el wi)[q]? = some (a, .inl (G.2.2.2.2, len, .inl f))) {x w : Int32} (hw : vp_nar .boolean w = w) (j : Nat) (hx2 : x = nI j) (hj : j < len) (hlen : len < 2147483648) (P2 : Heap → Prop) (hP2 : ∀ H1 : Heap, va_P G.1 vwCl ((zMW G ad Y σ el wi).set q (a, .inl (G.2.2.2.2, len, .inl (upd f j w)))) H1 → P2 H1) (hdg : decode cc pc = .ok (.bastore, 1))
    (kk : ∀ (H1 : Heap) (locs1 : List Loc), P2 H1 → va_S A H0 H1 locs1 → W p l e R s m args below meth c H1 locs1 cells slots Q (F0 m (pc + 1) ls rest)) : W p l e R s m args below meth c H locs cells slots Q (F0 m pc ls (.int w :: .int x :: .ref a :: rest)) := by
  subst hx2
  refine va_zast hx hb hK hM (hA Y σ el wi) hS q 3 ha rfl (vp_in_nI hj hlen) hdg (fun H1 locs1 hP1 hD1 hS1 => kk H1 locs1 (hP2 H1 ?_) hS1)
  rw [nI_clamp (Nat.lt_trans hj hlen), hw] at hP1
  exact hP1
end ZMOD
/-- what a store makes of the reference's state -/
theorem z_ms (G : zG) (ad : Nat → Nat) (Y : zY) (n : Nat) (g : Nat → Int32) (τ : zT) {k w : Nat} (hw : w < 9) (v : Int32) : ∀ H1 : Heap, va_P G.1 vwCl ((zMW G ad Y (zMA n g τ) (zEr τ) (τ 9)).set 1 (ad 1, .inl (G.2.2.1, 123, .inl (upd (zMA n g τ) (15 + 9 * k + w) v)))) H1 → zMP G ad Y n g (zSt τ w k v) H1 := by
  intro H1 h
  rw [zMA_us n g τ hw] at h
  unfold zMP zMQ
  rw [zEr_ne τ (by omega), zWi_ne τ (by omega)]
  exact h
theorem z_mg (G : zG) (ad : Nat → Nat) (Y : zY) (n : Nat) (g : Nat → Int32) (τ : zT) {j : Nat} (h9 : 9 ≤ j) (h15 : j < 15) (v : Int32) : ∀ H1 : Heap, va_P G.1 vwCl ((zMW G ad Y (zMA n g τ) (zEr τ) (τ 9)).set 1 (ad 1, .inl (G.2.2.1, 123, .inl (upd (zMA n g τ) j v)))) H1 → zMP G ad Y n g (zSt τ 11 j v) H1 := by
  intro H1 h
  rw [zMA_ug n g τ h9 h15] at h
  unfold zMP zMQ
  rw [zEr_ne τ (by omega), zWi_ne τ (by omega)]
  exact h
theorem z_mn (G : zG) (ad : Nat → Nat) (Y : zY) (n n2 : Nat) (g : Nat → Int32) (τ : zT) : ∀ H1 : Heap, va_P G.1 vwCl ((zMW G ad Y (zMA n g τ) (zEr τ) (τ 9)).set 1 (ad 1, .inl (G.2.2.1, 123, .inl (upd (zMA n g τ) 0 (nI n2))))) H1 → zMP G ad Y n2 g τ H1 := by
  intro H1 h
  rw [zMA_un n n2 g τ] at h
  exact h
theorem z_mf (G : zG) (ad : Nat → Nat) (Y : zY) (n : Nat) (g : Nat → Int32) (τ : zT) {j : Nat} (h1 : 1 ≤ j) (h9 : j < 9) (v : Int32) : ∀ H1 : Heap, va_P G.1 vwCl ((zMW G ad Y (zMA n g τ) (zEr τ) (τ 9)).set 1 (ad 1, .inl (G.2.2.1, 123, .inl (upd (zMA n g τ) j v)))) H1 → zMP G ad Y n (upd g j v) τ H1 := by
  intro H1 h
  rw [zMA_uf n g τ h1 h9] at h
  exact h
theorem z_mw (G : zG) (ad : Nat → Nat) (Y : zY) (n : Nat) (g : Nat → Int32) (τ : zT) (k : Nat) (v : Int32) : ∀ H1 : Heap, va_P G.1 vwCl ((zMW G ad Y (zMA n g τ) (zEr τ) (τ 9)).set 7 (ad 7, .inl (G.2.2.1, 12, .inl (upd (τ 9) k v)))) H1 → zMP G ad Y n g (zSt τ 9 k v) H1 := by
  intro H1 h
  rw [zWi_9] at h
  unfold zMP zMQ
  rw [zMA_10 n g τ (by omega) (by omega), zEr_ne τ (by omega)]
  exact h
theorem z_me (G : zG) (ad : Nat → Nat) (Y : zY) (n : Nat) (g : Nat → Int32) (τ : zT) (k : Nat) {v w : Int32} (hv : v = zBi (w = 1)) : ∀ H1 : Heap, va_P G.1 vwCl ((zMW G ad Y (zMA n g τ) (zEr τ) (τ 9)).set 6 (ad 6, .inl (G.2.2.2.2, 12, .inl (upd (zEr τ) k v)))) H1 → zMP G ad Y n g (zSt τ 10 k w) H1 := by
  intro H1 h
  rw [zEr_10 τ k hv] at h
  unfold zMP zMQ
  rw [zMA_10 n g τ (by omega) (by omega), zWi_ne τ (by omega)]
  exact h
