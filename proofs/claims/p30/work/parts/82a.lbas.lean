/-! ===== the law's world: the class's picture and the law's own row of 60 ints ===== -/
def zLW (G : zG) (ad : Nat → Nat) (na : Nat → Nat → Nat) (ma : Nat → Nat) (mm : Nat) (S : zSg) (f : Nat → Int32) (H : Heap) : Prop := zCP G ad na ma S H ∧ H[mm]? = some (vp_cell G.2.2.1 (60, .inl f))
def zAw (ad : Nat → Nat) (na : Nat → Nat → Nat) (ma : Nat → Nat) (mm : Nat) : Nat → Prop := fun q => zAll ad na ma q ∨ q = mm
theorem zCP.kept {G : zG} {ad : Nat → Nat} {na : Nat → Nat → Nat} {ma : Nat → Nat} {S : zSg} {H H1 : Heap} (hd : zTd ad na ma) (h : zCP G ad na ma S H) (hq : ∀ q, q < H.size → zAll ad na ma q → H1[q]? = H[q]?) : zCP G ad na ma S H1 := by
  obtain ⟨π, T, n, g, τ, fl, h1, h2, h3, h5, τ2, h6, h7⟩ := h
  refine ⟨π, T, n, g, τ, fl, h1, h2, h3, h5, τ2, h6, h7.kept fun k q hk => hq q.1 (h7 k q hk).lt ?_⟩
  exact (zAp_top (G := G) hd π S.2.1 fl T n g τ2).2 k q hk
theorem zCP.rcv {G : zG} {ad : Nat → Nat} {na : Nat → Nat → Nat} {ma : Nat → Nat} {S : zSg} {H : Heap} {s : State} (hK : zK G s) (h : zCP G ad na ma S H) : ∃ cell : Cell, H[ma 0]? = some cell ∧ cell.vm.isStatics = false ∧ s.vm.findClass RX4 = some cell.cls := by
  obtain ⟨π, T, n, g, τ, fl, h1, h2, h3, h5, h6⟩ := h
  exact z_recF hK h6
theorem zLW.lt {G : zG} {ad : Nat → Nat} {na : Nat → Nat → Nat} {ma : Nat → Nat} {mm : Nat} {S : zSg} {f : Nat → Int32} {H : Heap} (h : zLW G ad na ma mm S f H) : mm < H.size := (Array.getElem?_eq_some_iff.mp h.2).1
/-- a call of the class, in the law's world -/
theorem z_lw {l : Launch} {G : zG} {ad : Nat → Nat} {na : Nat → Nat → Nat} {ma : Nat → Nat} {mm : Nat} (hmm : ¬ zAll ad na ma mm) {y : MethodName} {ws : List Cond} {fr lo : Nat} {av : List Value} {S S2 : zSg} {r : Int32} (f : Nat → Int32) (h : zMi l G (zAll ad na ma) y ws fr lo av (zCP G ad na ma S) r (zCP G ad na ma S2)) : zMi l G (zAw ad na ma mm) y ws fr lo av (zLW G ad na ma mm S f) r (zLW G ad na ma mm S2 f) :=
  z_lift (fun H hH => ⟨_, _, hH.1, h, fun H1 _ hk q => ⟨q, (hk mm hH.lt hmm).trans hH.2⟩⟩) (fun _ h => Or.inl h)
/-- a contract whose entry also has the script -/
abbrev zPreX (G : zG) (b L : Nat) (xs : Nat → Int32) (av : List Value) (P : Heap → Prop) : Array Value → State → Prop := fun a U => zPre G av P a U ∧ (va_X b L xs U U.heap ∧ b < U.heap.size)
abbrev zMiX (l : Launch) (G : zG) (b L : Nat) (xs : Nat → Int32) (A : Nat → Prop) (y : MethodName) (ws : List Cond) (fr lo : Nat) (av : List Value) (P : Heap → Prop) (r : Int32) (P2 : Heap → Prop) : Prop := Met l y ws ({ frames := fr, cells := 0, slots := 0, locals := lo } : Room) (zPreX G b L xs av P) (zQi G r P2 A) 0 0 A
theorem z_blindX {G : zG} {b L : Nat} {xs : Nat → Int32} {av : List Value} {P : Heap → Prop} : FrameBlind (zPreX G b L xs av P) := fun a U g mk q => ⟨z_blind a U g mk q.1, va_X.moved (u := U) (U := U.calling g mk a) (Vm.Alike.refl U.vm) q.2.1, q.2.2⟩
set_option maxHeartbeats 4000000 in
theorem z_metX {l : Launch} {y : MethodName} {ws ws' : List Cond} {rm : Room} {G : zG} {b L : Nat} {xs : Nat → Int32} {A : Nat → Prop} {av : List Value} {P : Heap → Prop} {Qc : Array Value → State → Outcome → State → Prop} {cc : ByteArray} {maxL mc ms : Nat} {ret : Option FieldType} (hy : plainName y.cls = true) (hw : ws = Cond.code y cc maxL ret :: ws') (hsl : (lg_sl av).length ≤ maxL)
    (body : ∀ (p : Program) (e : Env) (s : State) (m : MethodId) (below : List Frame) (meth : Method) (c : Code) (ls : Array Slot), CallFix p m c cc maxL s av.toArray ws y.cls → meth.sig.returnType = ret → meth.locks = false → meth.name = y.name → P s.heap → zK G s → (va_X b L xs s s.heap ∧ b < s.heap.size) → lv_has ls maxL (lv_args 0 av) →
      W p l e rm s m av.toArray below meth c s.heap [] 0 0 (MQ below Qc av.toArray s mc ms A) (F0 m 0 ls [])) : Met l y ws rm (zPreX G b L xs av P) Qc mc ms A := by
  refine Met.ofW (cc := cc) (maxL := maxL) (ret := ret) hy hw ?_
  intro p e s m args below meth c s₁ B hml hv
  obtain ⟨⟨rfl, hP, hK⟩, hT⟩ := hv
  have hts := atoms_spec (ws := ws) B.pre
  have hl := lv_entry av (n := maxL) hsl
  rw [lg_entry_eq]
  generalize (lg_sl av ++ List.replicate (maxL - (lg_sl av).length) Slot.unset).toArray = ls at hl ⊢
  exact body p e s m below meth c ls ⟨B.exec, B.bytes, hml, findClass_of_methodNamed B.named, hts⟩ B.returns B.notSynchronized (name_of_methodNamed B.named B.method).1 hP hK hT hl
section ZLAW
variable {p : Program} {l : Launch} {e : Env} {R : Room} {s : State} {m : MethodId} {args : Array Value} {below : List Frame} {meth : Method} {c : Code} {H : Heap} {locs : List Loc} {cells slots : Nat} {Q : State → Prop}
variable {cc : ByteArray} {pc : Nat} {ls : Array Slot} {rest st0 : List Value} {G : zG} {A A0 : Nat → Prop} {H0 : Heap} {Ts ws : List Cond} {own C : String} {index : Nat} {ad : Nat → Nat} {na : Nat → Nat → Nat} {ma : Nat → Nat} {mm : Nat} {S : zSg} {f : Nat → Int32} {x w r : Int32} {j b L n nL fr lo maxL : Nat} {xs : Nat → Int32} {P P2 : Heap → Prop} {y : MethodName} {bytes : ByteArray} {ret : Option FieldType} {As : List Value}
/-- a static call that also wants the script -/
theorem z_siX (X : CallFix p m c cc nL s args Ts own) (hM : zMiX l G b L xs A y ws fr lo As P r P2) (cw : CallB R s args own index y bytes maxL ret ws ({ frames := fr, cells := 0, slots := 0, locals := lo } : Room) 0 0 n ∧ (Cond.static y).before args s = true)
    (hP : P H) (hK : zK G s) (hX : va_X b L xs s s.heap ∧ b < s.heap.size) (hbA : ¬ A0 b) (hS : va_S A0 s.heap H locs) (hA2 : ∀ q, A q → A0 q) (hsz : ls.size = nL) (hn : As.length = n) (hst : st0 = As.reverse ++ rest) (hrm : (rest.map fun v => v.category).sum ≤ 8) (hdg : decode cc pc = .ok (.invokestatic index, 3)) (hf : cells ≤ R.cells ∧ slots ≤ R.slots)
    (kk : ∀ (H1 : Heap) (locs1 : List Loc), P2 H1 → va_S A0 s.heap H1 locs1 → (H.size ≤ H1.size ∧ ∀ q : Nat, q < H.size → ¬ A q → H1[q]? = H[q]?) → W p l e R s m args below meth c H1 locs1 cells slots Q (F0 m (pc + 3) ls (.int r :: rest))) : W p l e R s m args below meth c H locs cells slots Q (F0 m pc ls st0) := by
  refine va_calli (va_runS X hM cw ⟨z_blindX, fun U hU hW => ⟨⟨rfl, by rw [hU]; exact hP, va_K.moved hW.alike hK⟩, ?_, ?_⟩⟩ rfl hn hsz hst (lv_room hrm) hdg hf) hS (fun q _ h => hA2 q h) hA2 (fun r1 u t H1 locs1 ht hvm hw hB hz hk hS1 => ?_)
  · rw [hU]
    exact (hX.1.kept (hS.2.1 b hX.2 hbA)).moved hW.alike
  · rw [hU]
    exact Nat.lt_of_lt_of_le hX.2 hS.1
  · cases hw
    exact kk H1 locs1 (ht ▸ hB.1) hS1 ⟨hz, hk⟩
theorem zLW_P (h : zLW G ad na ma mm S f H) : va_P G.1 vwCl [((mm, .inl (G.2.2.1, 60, .inl f)) : Nat × va_E)] H := by
  intro k q hk
  match k, hk with
  | 0, hk => cases hk; exact h.2
  | k + 1, hk => cases hk
/-- iaload of the law's row -/
theorem z_iaM (hx : p.tables.exec = Jvm.exec) (hb : c.code = cc) (hK : zK G s) (hW : zLW G ad na ma mm S f H) (hxi : x = nI j) (hj : j < 60) (hw : f j = w) (hdg : decode cc pc = .ok (.iaload, 1))
    (kk : W p l e R s m args below meth c H locs cells slots Q (F0 m (pc + 1) ls (.int w :: rest))) : W p l e R s m args below meth c H locs cells slots Q (F0 m pc ls (.int x :: .ref mm :: rest)) := by
  subst hxi
  subst hw
  refine va_iald hx hb hK (zLW_P hW) 0 1 (cA := G.2.2.1) (n := 60) (f := f) rfl rfl (vp_in_nI hj (by omega)) hdg ?_
  rw [nI_clamp (by omega)]
  exact kk
theorem z_isG (hx : p.tables.exec = Jvm.exec) (hb : c.code = cc) (hK : zK G s) (hS : va_S A0 H0 H locs) {N : Nat} (hcell : H[mm]? = some (vp_cell G.2.2.1 (N, .inl f))) (hA : A0 mm) (hin : vp_in x N) (hdg : decode cc pc = .ok (.iastore, 1))
    (kk : ∀ (H1 : Heap) (locs1 : List Loc), H1[mm]? = some (vp_cell G.2.2.1 (N, .inl (upd f x.toNatClampNeg w))) → (∀ q, q ≠ mm → H1[q]? = H[q]?) → va_S A0 H0 H1 locs1 → W p l e R s m args below meth c H1 locs1 cells slots Q (F0 m (pc + 1) ls rest)) : W p l e R s m args below meth c H locs cells slots Q (F0 m pc ls (.int w :: .int x :: .ref mm :: rest)) := by
  refine W.iast hx hb hcell ((hK.2 1 _ rfl).1 N (fun j => .int (f j))) (fun q => by cases q) (by show ¬ (x < 0 ∨ (arrV _ _ _).slots.size ≤ _); rw [arrV_size]; exact hin) rfl rfl hdg fun H1 e z oq => ?_
  refine kk H1 _ ?_ oq (hS.put z oq hA)
  rw [e]
  rw [vp_cell_i, vp_cell_i, arrV_store]
  congr 2
  funext q
  by_cases hq : q = x.toNatClampNeg
  · subst hq
    simp [updV, upd]
  · simp [updV, upd, hq]
/-- iastore into the law's row -/
theorem z_isM (hx : p.tables.exec = Jvm.exec) (hb : c.code = cc) (hd : zTd ad na ma) (hmm : ¬ zAll ad na ma mm) (hK : zK G s) (hA : ∀ q, zAw ad na ma mm q → A0 q) (hS : va_S A0 H0 H locs) (hW : zLW G ad na ma mm S f H) (hxi : x = nI j) (hj : j < 60) (hdg : decode cc pc = .ok (.iastore, 1))
    (kk : ∀ (H1 : Heap) (locs1 : List Loc), zLW G ad na ma mm S (upd f j w) H1 → va_S A0 H0 H1 locs1 → W p l e R s m args below meth c H1 locs1 cells slots Q (F0 m (pc + 1) ls rest)) : W p l e R s m args below meth c H locs cells slots Q (F0 m pc ls (.int w :: .int x :: .ref mm :: rest)) := by
  subst hxi
  refine z_isG hx hb hK hS hW.2 (hA mm (Or.inr rfl)) (vp_in_nI hj (by omega)) hdg (fun H1 locs1 e oq hS1 => kk H1 locs1 ⟨zCP.kept hd hW.1 (fun q _ ha => oq q (fun z => hmm (z ▸ ha))), ?_⟩ hS1)
  rw [nI_clamp (by omega)] at e
  exact e
end ZLAW
